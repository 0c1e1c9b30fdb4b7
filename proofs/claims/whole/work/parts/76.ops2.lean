section
variable {b b' : Bool} {h h' nv ns nt nb nd nw : Nat} {t t' : tS} {s s' : oT} {M M1 M2 Mc Mm Mc' Mm' : gM}
def uC0 (k j : Nat) : Prop := (k = 0 ∧ 7 ≤ j) ∨ (42 ≤ k ∧ k < 88)
def uM0 (k j : Nat) : Prop := (k = 88 ∧ ((25 ≤ j ∧ j < 44) ∨ 61 ≤ j)) ∨ (105 ≤ k ∧ k < 126) ∨ (132 ≤ k ∧ k < 139)
theorem Rl.g (r : Rl b h nv ns nt nb nd nw t s Mc Mm) (e : ∀ k j, uC0 k j → Mc'.1 k j = Mc.1 k j) (em : ∀ k j, uM0 k j → Mm'.1 k j = Mm.1 k j) (n1 : tpC Mc' t') (n2 : tpM Mm' t') (n3 : ordCs Mc' (if b' then 17 else 11) s') (n4 : ordMs Mm' h' s') (n5 : wdM Mm') (n6 : aOK s') : Rl b' h' nv ns nt nb nd nw t' s' Mc' Mm' := by
  obtain ⟨r1, r2, r3, r4, r5, r6, r7, r8, r9, r10, r11, r12, r13, r14, r15, r16⟩ := r
  have g : ∀ k j, (105 ≤ k ∧ k < 126) ∨ (132 ≤ k ∧ k < 139) → Mm'.1 k j = Mm.1 k j := fun k j hk => em k j (by unfold uM0; omega)
  have gc : ∀ k j, 42 ≤ k ∧ k < 88 → Mc'.1 k j = Mc.1 k j := fun k j hk => e k j (Or.inr hk)
  have g0 : ∀ j, 7 ≤ j → Mc'.1 0 j = Mc.1 0 j := fun j hj => e 0 j (Or.inl ⟨rfl, hj⟩)
  refine ⟨r1, ?_, ?_, ?_, fun i hi => ?_, fun i hi => ?_, fun i hi => ?_, fun i hi => ?_, fun i hi => ?_, ?_, ?_, n1, n2, n3, n4, n5, n6⟩
  · unfold rC
    rw [g0 7 (by omega), g0 8 (by omega), g0 9 (by omega), g0 10 (by omega), g0 11 (by omega), g0 12 (by omega)]
    exact r2
  · unfold rM
    rw [em 88 26 (by unfold uM0; omega), em 88 38 (by unfold uM0; omega), em 88 43 (by unfold uM0; omega), em 88 62 (by unfold uM0; omega), em 88 67 (by unfold uM0; omega), em 88 25 (by unfold uM0; omega)]
    exact r3
  · obtain ⟨q1, q2, q3, q4, q5, q6, q7, q8, q9⟩ := r4
    refine ⟨fun i hi => ?_, fun i hi => ?_, fun i d hi hd => ?_, fun i hi => ?_, fun i hi => ?_, fun i hi => ?_, fun i hi => ?_, fun i hi => ?_, fun i hi => ?_⟩
    · rw [g 105 _ (by omega), g 106 _ (by omega), g 107 _ (by omega), g 108 _ (by omega)]; exact q1 i hi
    · rw [g 109 _ (by omega), dcnt_c (fun q => g 135 q (by omega))]; exact q2 i hi
    · rw [g 113 _ (by omega)]; exact q3 i d hi hd
    · rw [g 115 _ (by omega), g 116 _ (by omega), g 117 _ (by omega), g 118 _ (by omega)]; exact q4 i hi
    · rw [g 125 _ (by omega)]; exact q5 i hi
    · rw [g 119 _ (by omega), g 120 _ (by omega), g 121 _ (by omega)]; exact q6 i hi
    · rw [g 132 _ (by omega), g 133 _ (by omega), g 134 _ (by omega)]; exact q7 i hi
    · rw [g 114 _ (by omega)]; exact q8 i hi
    · rw [g 135 _ (by omega)]; exact q9 i hi
  · have gi : ∀ j, Mc'.1 (2 * i + 42) j = Mc.1 (2 * i + 42) j := fun j => gc _ _ (by omega)
    rw [gi, gi, gi, gi, gi, gi, gi, gi, gi, g 105 _ (by omega), g 106 _ (by omega), g 107 _ (by omega), g 108 _ (by omega), g 109 _ (by omega), g 114 _ (by omega), g 110 _ (by omega), g 111 _ (by omega), g 112 _ (by omega)]
    exact r5 i hi
  · refine ⟨by rw [gc _ _ (by omega), g 113 _ (by omega)]; exact (r6 i hi).1, fun d h1 h2 h3 => by rw [gc _ _ (by omega), g 113 _ (by omega)]; exact (r6 i hi).2.1 d h1 h2 h3, fun j h1 h2 => by rw [gc _ _ (by omega)]; exact (r6 i hi).2.2 j h1 h2⟩
  · have gi : ∀ j, Mc'.1 (2 * i + 66) j = Mc.1 (2 * i + 66) j := fun j => gc _ _ (by omega)
    rw [gi, gi, gi, gi, g 115 _ (by omega), g 116 _ (by omega), g 117 _ (by omega), g 118 _ (by omega)]
    exact ⟨(r7 i hi).1, (r7 i hi).2.1, (r7 i hi).2.2.1, (r7 i hi).2.2.2.1, fun j hj => by rw [gc _ _ (by omega), g 125 _ (by omega)]; exact (r7 i hi).2.2.2.2 j hj⟩
  · have gi : ∀ j, Mc'.1 (i + 74) j = Mc.1 (i + 74) j := fun j => gc _ _ (by omega)
    rw [gi, gi, gi, gi, gi, gi, gi, gi, gi, g 119 _ (by omega), g 120 _ (by omega), g 121 _ (by omega), g 122 _ (by omega), g 123 _ (by omega), g 124 _ (by omega), g 136 _ (by omega), g 137 _ (by omega), g 138 _ (by omega)]
    exact r8 i hi
  · have gi : ∀ j, Mc'.1 (i + 78) j = Mc.1 (i + 78) j := fun j => gc _ _ (by omega)
    rw [gi, gi, gi, gi, g 132 _ (by omega), g 134 _ (by omega), g 135 _ (by omega), g 133 _ (by omega)]
    refine ⟨(r9 i hi).1, (r9 i hi).2.1, (r9 i hi).2.2.1, fun hq u hl hu => ?_⟩
    rw [g 105 _ (by omega)]
    exact (r9 i hi).2.2.2 hq u hl hu
  · rw [g0 13 (by omega), em 88 37 (by unfold uM0; omega)]; exact r10
  · rw [g0 14 (by omega), em 88 61 (by unfold uM0; omega)]; exact r11
theorem uC_Sc {k j : Nat} (u : uC b k j) : ¬ Sc k j := by
  unfold uC at u
  unfold Sc
  cases b <;> simp at u <;> omega
theorem fm_Sc (g : gEq Sc M M1) : FM M M1 := ⟨fun k j hk => g.2 k j (by unfold Sc; omega), by rw [g.1]⟩
theorem Rl.st (r : Rl b h nv ns nt nb nd nw t s M M) (g : gEq Sc M M1) (g2 : gEq St M1 M2) : Rl b h nv ns nt nb nd nw t s M2 M2 := r.same (fun k j u => (g2.2 k j (by have := uC_lt u; unfold St Sm; omega)).trans (g.2 k j (uC_Sc u))) (fun k j u => (g2.2 k j (by unfold uM at u; unfold St Sm; omega)).trans (g.2 k j (by unfold uM at u; unfold Sc; omega))) (by rw [g2.1, g.1])
theorem tank0 (r : Rl b h nv ns nt nb nd nw t s Mc Mm) : ∀ v, v < nv → ¬ (Mm.1 107 v).toInt64 = 0 := by
  intro v hv
  obtain ⟨p, be, tk, x, -, -, h3, -, -, -, -, ht1, ht2, -⟩ := r.2.2.2.1.1 v hv
  rw [h3, lI_of (by omega)]
  intro z
  have := ofNat_inj64 (a := tk) (b := 0) (by omega) (by omega) z
  omega
end
set_option maxHeartbeats 1000000 in
theorem good_want {M : gM} (hI : Inv M) (v : Int32) : Good M [.int v] 4 yX8_want cX8_want 2 .int 3 yX9_want cX9_want 2 .int := by
  obtain ⟨b, h, nv, ns, nt, nb, nd, nw, t, s, hR, r⟩ := hI
  have l := r.1
  have l1 := l.1
  have l2 := l.2.1
  have l3 := l.2.2.1
  have l4 := l.2.2.2.1
  have r2 := r.2.1
  refine ⟨_, ct_X8_want hR r2.1 l.1 r2.2.1 l.2.1 r2.2.2.1 l.2.2.1 r2.2.2.2.1 l.2.2.2.1 rfl r.2.2.2.2.2.2.2.2.2.2.2.2.2.1 v, fun x1 M1 h1 => ?_⟩
  have hfm := fm_Sc h1.2
  have hR1 : M1.2.2 = stdR b := by rw [h1.2.1]; exact hR
  have rm := r.fm hfm
  have r3 := rm.2.2.1
  refine ⟨_, ct_X9_want hR1 r3.1 l.1 r3.2.1 l.2.1 r3.2.2.1 l.2.2.1 r3.2.2.2.1 l.2.2.2.1 rm.2.2.2.2.2.2.2.2.2.2.2.2.2.2.1 (tank0 rm) v, fun x2 M2 h2 => ⟨?_, b, h, nv, ns, nt, nb, nd, nw, t, s, by rw [h2.2.1.1, h1.2.1]; exact hR, r.st h1.2 h2.2.1⟩⟩
  rcases h1.1 with ⟨q, hq, rfl, rfl⟩ | ⟨c1, rfl⟩
  · rcases h2.1 with ⟨q', hq', e, rfl⟩ | ⟨m1, rfl⟩
    · obtain rfl : q = q' := neq_t (by omega) (by omega) e
      rw [want_eq rm hq, r3.2.2.2.2.2]
    · exact absurd ⟨q, hq, rfl⟩ m1
  · rcases h2.1 with ⟨q', hq', e, rfl⟩ | ⟨m1, rfl⟩
    · exact absurd ⟨q', hq', e⟩ c1
    · rfl

set_option maxHeartbeats 1000000 in
theorem good_foretold {M : gM} (hI : Inv M) (v : Int32) : Good M [.int v] 4 yX8_foretold cX8_foretold 6 .int 3 yX9_foretold cX9_foretold 5 .int := by
  obtain ⟨b, h, nv, ns, nt, nb, nd, nw, t, s, hR, r⟩ := hI
  have l := r.1
  have l1 := l.1
  have l2 := l.2.1
  have l3 := l.2.2.1
  have l4 := l.2.2.2.1
  have r2 := r.2.1
  refine ⟨_, ct_X8_foretold hR r2.1 l.1 r2.2.1 l.2.1 r2.2.2.1 l.2.2.1 r2.2.2.2.1 l.2.2.2.1 rfl r.2.2.2.2.2.2.2.2.2.2.2.2.2.1 v, fun x1 M1 h1 => ?_⟩
  have hfm := fm_Sc h1.2
  have hR1 : M1.2.2 = stdR b := by rw [h1.2.1]; exact hR
  have rm := r.fm hfm
  have r3 := rm.2.2.1
  have l6 := l.2.2.2.2.2
  refine ⟨_, ct_X9_foretold hR1 r3.1 l.1 r3.2.1 l.2.1 r3.2.2.1 l.2.2.1 r3.2.2.2.1 l.2.2.2.1 rm.2.2.2.2.2.2.2.2.2.2.2.2.2.2.1 (tank0 rm) r3.2.2.2.2.2 l6 v, fun x2 M2 h2 => ⟨?_, b, h, nv, ns, nt, nb, nd, nw, t, s, by rw [h2.2.1.1, h1.2.1]; exact hR, r.st h1.2 h2.2.1⟩⟩
  rcases h1.1 with ⟨q, hq, rfl, rfl⟩ | ⟨c1, rfl⟩
  · rcases h2.1 with ⟨q', hq', e, rfl⟩ | ⟨m1, rfl⟩
    · obtain rfl : q = q' := neq_t (by omega) (by omega) e
      obtain ⟨g0, g1, g2, g3, g4, -⟩ := rm.2.2.2.2.1 q (by omega)
      rw [want_eq rm hq, nI_1, g2, g3, g4, r2.2.2.2.2.2]
    · exact absurd ⟨q, hq, rfl⟩ m1
  · rcases h2.1 with ⟨q', hq', e, rfl⟩ | ⟨m1, rfl⟩
    · exact absurd ⟨q', hq', e⟩ c1
    · rfl

set_option maxHeartbeats 1000000 in
theorem good_isShort {M : gM} (hI : Inv M) (q0 : Int32) : Good M [.int q0] 2 yX8_isShort cX8_isShort 3 .int 0 yX9_isShort cX9_isShort 2 .int := by
  obtain ⟨b, h, nv, ns, nt, nb, nd, nw, t, s, hR, r⟩ := hI
  have l := r.1
  have l1 := l.1
  have l2 := l.2.1
  have l3 := l.2.2.1
  have l4 := l.2.2.2.1
  have r2 := r.2.1
  refine ⟨_, ct_X8_isShort hR r2.1 l.1 r2.2.1 l.2.1 r2.2.2.1 l.2.2.1 r2.2.2.2.1 l.2.2.2.1 q0, fun x1 M1 h1 => ?_⟩
  obtain ⟨h1, rfl⟩ := h1
  have r3 := r.2.2.1
  refine ⟨_, ct_X9_isShort hR r3.1 l.1 r3.2.1 l.2.1 r3.2.2.1 l.2.2.1 r3.2.2.2.1 l.2.2.2.1 q0, fun x2 M2 h2 => ?_⟩
  obtain ⟨h2, rfl⟩ := h2
  refine ⟨?_, Inv.t0 hR r⟩
  rcases h1 with ⟨q, hq, rfl, rfl⟩ | ⟨c1, rfl⟩
  · rcases h2 with ⟨q', hq', e, rfl⟩ | ⟨m1, rfl⟩
    · obtain rfl : q = q' := neq_t (by omega) (by omega) e
      exact short_eq r (by omega)
    · exact absurd ⟨q, hq, rfl⟩ m1
  · rcases h2 with ⟨q', hq', e, rfl⟩ | ⟨m1, rfl⟩
    · exact absurd ⟨q', hq', e⟩ c1
    · rfl

set_option maxHeartbeats 1000000 in
theorem good_share {M : gM} (hI : Inv M) (v : Int32) : Good M [.int v] 2 yX8_share cX8_share 4 .int 1 yX9_share cX9_share 6 .int := by
  obtain ⟨b, h, nv, ns, nt, nb, nd, nw, t, s, hR, r⟩ := hI
  have l := r.1
  have l1 := l.1
  have l2 := l.2.1
  have l3 := l.2.2.1
  have l4 := l.2.2.2.1
  have r2 := r.2.1
  refine ⟨_, ct_X8_share hR r2.1 l.1 r2.2.1 l.2.1 r2.2.2.1 l.2.2.1 r2.2.2.2.1 l.2.2.2.1 v, fun x1 M1 h1 => ?_⟩
  obtain ⟨h1, rfl⟩ := h1
  have r3 := r.2.2.1
  have l6 := l.2.2.2.2.2
  refine ⟨_, ct_X9_share hR r3.1 l.1 r3.2.1 l.2.1 r3.2.2.1 l.2.2.1 r3.2.2.2.1 l.2.2.2.1 r3.2.2.2.2.2 l6 (fun v d hv h0 h7 => ?_) v, fun x2 M2 h2 => ?_⟩
  · obtain ⟨p, be, tk, x, h3, -, -, -, hp1, hp2, -⟩ := r.2.2.2.1.1 v hv
    rw [h3, lI_of (by omega), lI_of (by omega), lI_mul]
    intro z
    have h5 : 1 ≤ p * d := Nat.mul_le_mul hp1 h0
    have h6 : p * d ≤ 2000 * 7 := Nat.mul_le_mul hp2 h7
    have := ofNat_inj64 (a := p * d) (b := 0) (by omega) (by omega) z
    omega
  obtain ⟨h2, rfl⟩ := h2
  refine ⟨?_, Inv.t0 hR r⟩
  rcases h1 with ⟨q, hq, rfl, rfl⟩ | ⟨c1, rfl⟩
  · rcases h2 with ⟨q', hq', e, rfl⟩ | ⟨m1, rfl⟩
    · obtain rfl : q = q' := neq_t (by omega) (by omega) e
      exact share_eq r hq
    · exact absurd ⟨q, hq, rfl⟩ m1
  · rcases h2 with ⟨q', hq', e, rfl⟩ | ⟨m1, rfl⟩
    · exact absurd ⟨q', hq', e⟩ c1
    · rfl

set_option maxHeartbeats 1000000 in
theorem good_count {M : gM} (hI : Inv M) (x : Int32) : Good M [.int x] 0 yX8_count cX8_count 2 .int 0 yX9_count cX9_count 2 .int := by
  obtain ⟨b, h, nv, ns, nt, nb, nd, nw, t, s, hR, r⟩ := hI
  have l := r.1
  have l1 := l.1
  have l2 := l.2.1
  have l3 := l.2.2.1
  have l4 := l.2.2.2.1
  have r2 := r.2.1
  refine ⟨_, ct_X8_count hR rfl x, fun x1 M1 h1 => ?_⟩
  obtain ⟨h1, rfl⟩ := h1
  have r3 := r.2.2.1
  have r15 := r.2.2.2.2.2.2.2.2.2.2.2.2.2.2.1
  refine ⟨_, ct_X9_count hR r15.2.2.1 r15.1 x, fun x2 M2 h2 => ?_⟩
  obtain ⟨h2, rfl⟩ := h2
  refine ⟨?_, Inv.t0 hR r⟩
  rcases h1 with ⟨w, hw, rfl, rfl⟩ | ⟨c1, rfl⟩
  · rcases h2 with ⟨w', hw', e, rfl⟩ | ⟨m1, rfl⟩
    · obtain rfl : w = w' := neq_t (by omega) (by omega) e
      exact count_eq r hw
    · rw [nI_toInt (by omega)] at m1; omega
  · rcases h2 with ⟨w', hw', rfl, rfl⟩ | ⟨m1, rfl⟩
    · rw [nI_toInt (by omega)] at c1; omega
    · rfl

set_option maxHeartbeats 1000000 in
theorem good_best {M : gM} (hI : Inv M) (pu : Int32) : Good M [.int pu] 2 yX8_best cX8_best 9 .int 1 yX9_best cX9_best 10 .int := by
  obtain ⟨b, h, nv, ns, nt, nb, nd, nw, t, s, hR, r⟩ := hI
  have l := r.1
  have l1 := l.1
  have l2 := l.2.1
  have l3 := l.2.2.1
  have l4 := l.2.2.2.1
  have r2 := r.2.1
  refine ⟨_, ct_X8_best hR r2.1 l.1 r2.2.1 l.2.1 r2.2.2.1 l.2.2.1 r2.2.2.2.1 l.2.2.2.1 pu, fun x1 M1 h1 => ?_⟩
  obtain ⟨h1, rfl⟩ := h1
  have r3 := r.2.2.1
  have hbo : ∀ i, i < nb → M1.1 132 i = nI (M1.1 132 i).toNatClampNeg ∧ (M1.1 132 i).toNatClampNeg < 12 := fun i hi => by
    obtain ⟨u, ch, co, g1, -, -, g4, -⟩ := r.2.2.2.1.2.2.2.2.2.2.1 i hi
    rw [g1, nI_clamp (by omega)]
    exact ⟨rfl, by omega⟩
  refine ⟨_, ct_X9_best hR r3.1 l.1 r3.2.1 l.2.1 r3.2.2.1 l.2.2.1 r3.2.2.2.1 l.2.2.2.1 (bo := fun i => (M1.1 132 i).toNatClampNeg) hbo pu, fun x2 M2 h2 => ?_⟩
  obtain ⟨h2, rfl⟩ := h2
  refine ⟨?_, Inv.t0 hR r⟩
  rcases h1 with ⟨v1, q, hq, rfl⟩ | ⟨c1, rfl⟩
  · rcases h2 with ⟨-, q', hq', rfl⟩ | ⟨m1, rfl⟩
    · have h2n : 2 ^ nb ≤ 2 ^ 10 := Nat.pow_le_pow_right (by omega) l4
      rw [best_eq r hbo (2 ^ nb - 1) (by omega) q q' hq hq']
    · exact absurd v1 m1
  · rcases h2 with ⟨v1, -⟩ | ⟨m1, rfl⟩
    · exact absurd v1 c1
    · rfl

set_option maxHeartbeats 1000000 in
theorem good_flows {M : gM} (hI : Inv M) (u w : Int32) : Good M [.int u, .int w] 2 yX8_flows cX8_flows 3 .int 0 yX9_flows cX9_flows 3 .int := by
  obtain ⟨b, h, nv, ns, nt, nb, nd, nw, t, s, hR, r⟩ := hI
  have l := r.1
  have l1 := l.1
  have l2 := l.2.1
  have l3 := l.2.2.1
  have l4 := l.2.2.2.1
  have r2 := r.2.1
  refine ⟨_, ct_X8_flows hR r2.1 l.1 r2.2.1 l.2.1 r2.2.2.1 l.2.2.1 r2.2.2.2.1 l.2.2.2.1 u w, fun x1 M1 h1 => ?_⟩
  obtain ⟨h1, rfl⟩ := h1
  have r3 := r.2.2.1
  refine ⟨_, ct_X9_flows hR r3.1 l.1 r3.2.1 l.2.1 r3.2.2.1 l.2.2.1 r3.2.2.2.1 l.2.2.2.1 u w, fun x2 M2 h2 => ?_⟩
  obtain ⟨h2, rfl⟩ := h2
  refine ⟨?_, Inv.t0 hR r⟩
  rcases h1 with ⟨q, hq, rfl, v1, rfl⟩ | ⟨c1, rfl⟩
  · rcases h2 with ⟨q', hq', e, rfl⟩ | ⟨m1, rfl⟩
    · obtain rfl : q = q' := neq_t (by omega) (by omega) e
      obtain ⟨w, rfl, -, w2⟩ := rng (lo := 0) (hi := 1) (by omega) (by omega) v1
      rcases (show w = 0 ∨ w = 1 by omega) with rfl | rfl
      · exact (r.2.2.2.2.2.2.1 q (by omega)).1
      · exact (r.2.2.2.2.2.2.1 q (by omega)).2.2.1
    · exact absurd ⟨q, hq, rfl⟩ m1
  · rcases h2 with ⟨q', hq', e, rfl⟩ | ⟨m1, rfl⟩
    · symm
      rw [if_neg (fun z => c1 ⟨⟨q', hq', e⟩, by rw [z]; exact ⟨by decide, by decide⟩⟩)]
      rw [if_neg (fun z => c1 ⟨⟨q', hq', e⟩, by rw [z]; exact ⟨by decide, by decide⟩⟩)]
    · rfl

set_option maxHeartbeats 1000000 in
theorem good_goes {M : gM} (hI : Inv M) (u w : Int32) : Good M [.int u, .int w] 2 yX8_goes cX8_goes 4 .int 0 yX9_goes cX9_goes 3 .int := by
  obtain ⟨b, h, nv, ns, nt, nb, nd, nw, t, s, hR, r⟩ := hI
  have l := r.1
  have l1 := l.1
  have l2 := l.2.1
  have l3 := l.2.2.1
  have l4 := l.2.2.2.1
  have r2 := r.2.1
  refine ⟨_, ct_X8_goes hR r2.1 l.1 r2.2.1 l.2.1 r2.2.2.1 l.2.2.1 r2.2.2.2.1 l.2.2.2.1 u w, fun x1 M1 h1 => ?_⟩
  obtain ⟨h1, rfl⟩ := h1
  have r3 := r.2.2.1
  refine ⟨_, ct_X9_goes hR r3.1 l.1 r3.2.1 l.2.1 r3.2.2.1 l.2.2.1 r3.2.2.2.1 l.2.2.2.1 u w, fun x2 M2 h2 => ?_⟩
  obtain ⟨h2, rfl⟩ := h2
  refine ⟨?_, Inv.t0 hR r⟩
  rcases h1 with ⟨q, hq, rfl, v1, rfl⟩ | ⟨c1, rfl⟩
  · rcases h2 with ⟨q', hq', e, rfl⟩ | ⟨m1, rfl⟩
    · obtain rfl : q = q' := neq_t (by omega) (by omega) e
      obtain ⟨w, rfl, -, w2⟩ := rng (lo := 0) (hi := 2) (by omega) (by omega) v1
      rcases (show w = 0 ∨ w = 1 ∨ w = 2 by omega) with rfl | rfl | rfl
      · exact (r.2.2.2.2.2.2.2.1 q (by omega)).2.2.2.1
      · exact (r.2.2.2.2.2.2.2.1 q (by omega)).2.2.2.2.1
      · exact (r.2.2.2.2.2.2.2.1 q (by omega)).2.2.2.2.2.1
    · exact absurd ⟨q, hq, rfl⟩ m1
  · rcases h2 with ⟨q', hq', e, rfl⟩ | ⟨m1, rfl⟩
    · symm
      rw [if_neg (fun z => c1 ⟨⟨q', hq', e⟩, by rw [z]; exact ⟨by decide, by decide⟩⟩)]
      rw [if_neg (fun z => c1 ⟨⟨q', hq', e⟩, by rw [z]; exact ⟨by decide, by decide⟩⟩)]
      rw [if_neg (fun z => c1 ⟨⟨q', hq', e⟩, by rw [z]; exact ⟨by decide, by decide⟩⟩)]
    · rfl

set_option maxHeartbeats 1000000 in
theorem good_drill {M : gM} (hI : Inv M) (x y : Int32) : Good M [.int x, .int y] 2 yX8_drill cX8_drill 4 .boolean 1 yX9_drill cX9_drill 3 .boolean := by
  obtain ⟨b, h, nv, ns, nt, nb, nd, nw, t, s, hR, r⟩ := hI
  have l := r.1
  have l1 := l.1
  have l2 := l.2.1
  have l3 := l.2.2.1
  have l4 := l.2.2.2.1
  have r2 := r.2.1
  have hbv : ∀ q, q < nb → ∃ u, u < nv ∧ M.1 (q + 78) 0 = nI u := fun q hq => by
    obtain ⟨u, ch, co, g1, -, -, g4, -⟩ := r.2.2.2.1.2.2.2.2.2.2.1 q hq
    exact ⟨u, g4, (r.2.2.2.2.2.2.2.2.1 q (by omega)).1.trans g1⟩
  refine ⟨_, ct_X8_drill hR r2.1 l.1 r2.2.1 l.2.1 r2.2.2.1 l.2.2.1 r2.2.2.2.1 l.2.2.2.1 hbv x y, fun x1 M1 h1 => ?_⟩
  have hfm : FM M M1 := by
    rcases h1 with ⟨q, u, hq, hu, -, -, -, -, -, rfl⟩ | ⟨-, -, rfl⟩
    · exact ⟨fun k j hk => by rw [gwI_n (by omega), gwI_n (by omega)], rfl⟩
    · exact FM.rf
  have hR1 : M1.2.2 = stdR b := by
    rcases h1 with ⟨q, u, hq, hu, -, -, -, -, -, rfl⟩ | ⟨-, -, rfl⟩
    · exact hR
    · exact hR
  have rm := r.fm hfm
  have r3 := rm.2.2.1
  have r9 := r.2.2.2.2.2.2.2.2.1
  have hbm : ∀ q, q < nb → ∃ u, u < nv ∧ M1.1 132 q = nI u := fun q hq => by
    obtain ⟨u, ch, co, g1, -, -, g4, -⟩ := rm.2.2.2.1.2.2.2.2.2.2.1 q hq
    exact ⟨u, g4, g1⟩
  refine ⟨_, ct_X9_drill hR1 r3.1 l.1 r3.2.1 l.2.1 r3.2.2.1 l.2.2.1 r3.2.2.2.1 l.2.2.2.1 hbm x y, fun x2 M2 h2 => ?_⟩
  rcases h1 with ⟨q, u, hq, hu, eb, rfl, ez, v1, rfl, rfl⟩ | ⟨c1, rfl, rfl⟩
  · rcases h2 with ⟨q', u', hq', hu', eb', e, ez', -, rfl, rfl⟩ | ⟨m1, rfl, rfl⟩
    · obtain rfl : q = q' := neq_t (by omega) (by omega) e
      rw [gwI_n (by omega), gwI_n (by omega), ← (r9 q (by omega)).1] at eb'
      obtain rfl : u = u' := neq_t (by omega) (by omega) (eb.symm.trans eb')
      obtain ⟨y, rfl, -, y2⟩ := rng (lo := 0) (hi := 5000) (by omega) (by omega) v1
      have hz : M.1 135 q = 0 := (r9 q (by omega)).2.2.1.symm.trans ez
      refine ⟨rfl, b, h, nv, ns, nt, nb, nd, nw, t, s, hR, up_drill (q := q) (u := u) (y := y) hq hu y2 hz r rfl ?_ ?_ ?_ ?_ ?_ ?_⟩
      · intro k j hn; rw [gwI_n (by omega), gwI_n (by omega), gwI_n (by omega), gwI_n (by omega), gwI_n (by omega)]
      · rw [gwI_n (by omega), gwI_n (by omega), gwI_n (by omega), gwI_n (by omega), gwI_s]
      · rw [gwI_n (by omega), gwI_s]
      · rw [gwI_n (by omega), gwI_n (by omega), gwI_n (by omega), gwI_s]
      · rw [gwI_s, gwI_n (by omega), gwI_n (by omega)]
      · have e1 : ∀ q9, (gwI (gwI (gwI (gwI (gwI M (q + 78) 3 1) (2 * u + 42) 4 (M.1 (2 * u + 42) 4 + nI y)) 88 0 0) 135 q 1) 109 u ((gwI (gwI M (q + 78) 3 1) (2 * u + 42) 4 (M.1 (2 * u + 42) 4 + nI y)).1 109 u + nI y)).1 135 q9 = (gwI M 135 q 1).1 135 q9 := fun q9 => by
          rw [gwI_n (by omega)]
          by_cases e9 : q9 = q
          · rw [e9, gwI_s, gwI_s]
          · rw [gwI_n (by omega), gwI_n (by omega), gwI_n (by omega), gwI_n (by omega), gwI_n (by omega)]
        rw [dcnt_c e1 10, dcnt_s hz 10 (by omega)]
    · refine absurd ⟨q, ⟨hq, rfl⟩, ?_, v1⟩ m1
      rw [gwI_n (by omega), gwI_n (by omega), ← (r9 q (by omega)).2.2.1]; exact ez
  · rcases h2 with ⟨q', u', hq', hu', eb', e, ez', v1, rfl, rfl⟩ | ⟨m1, rfl, rfl⟩
    · exact absurd ⟨q', ⟨hq', e⟩, (r9 q' (by omega)).2.2.1.trans ez', v1⟩ c1
    · exact ⟨rfl, Inv.t0 hR r⟩


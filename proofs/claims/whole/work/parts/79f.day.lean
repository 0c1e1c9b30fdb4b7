/-! a day: springs, wells, rest, drives -/
/-- what a day's morning and its drives write, in the class and in the model -/
def Ec (k j : Nat) : Prop := (42 ≤ k ∧ k < 66 ∧ k % 2 = 0 ∧ (j = 3 ∨ j = 9)) ∨ (66 ≤ k ∧ k < 74 ∧ k % 2 = 0 ∧ (j = 0 ∨ j = 2)) ∨ (74 ≤ k ∧ k < 78 ∧ (j = 3 ∨ j = 4 ∨ j = 5))
def Em (k j : Nat) : Prop := k = 108 ∨ k = 112 ∨ k = 115 ∨ k = 117 ∨ k = 122 ∨ k = 123 ∨ k = 124
section
variable {b : Bool} {h nv ns nt nb nd nw : Nat} {t : tS} {s : oT} {Mc Mm Mc' Mm' : gM}
set_option maxHeartbeats 1000000 in
theorem Rl.up1 (r : Rl b h nv ns nt nb nd nw t s Mc Mm) (ec : ∀ k j, ¬ Ec k j → Mc'.1 k j = Mc.1 k j) (em : ∀ k j, ¬ Em k j → Mm'.1 k j = Mm.1 k j) (el : Mm'.2 = Mm.2)
    (uv : ∀ i, i < 12 → Mc'.1 (2 * i + 42) 3 = Mm'.1 108 i ∧ Mc'.1 (2 * i + 42) 9 = Mm'.1 112 i) (uvr : ∀ i, i < nv → ∀ tk, Mm.1 107 i = nI tk → tk ≤ 100000 → ∃ x, Mm'.1 108 i = nI x ∧ x ≤ tk)
    (us : ∀ i, i < 4 → Mc'.1 (2 * i + 66) 0 = Mm'.1 115 i ∧ Mc'.1 (2 * i + 66) 2 = Mm'.1 117 i) (usr : ∀ i, i < ns → ∀ p, Mm.1 116 i = nI p → p ≤ 200000 → ∃ f x, Mm'.1 115 i = nI f ∧ f ≤ 100000 ∧ Mm'.1 117 i = nI x ∧ x ≤ p)
    (ut : ∀ i, i < 4 → Mc'.1 (i + 74) 3 = Mm'.1 122 i ∧ Mc'.1 (i + 74) 4 = Mm'.1 123 i ∧ Mc'.1 (i + 74) 5 = Mm'.1 124 i) : Rl b h nv ns nt nb nd nw t s Mc' Mm' := by
  obtain ⟨r1, r2, r3, r4, r5, r6, r7, r8, r9, r10, r11, r12, r13, r14, r15, r16⟩ := r
  obtain ⟨q1, q2, q3, q4, q5, q6, q7, q8, q9⟩ := r4
  have c0 : ∀ j, Mc'.1 0 j = Mc.1 0 j := fun j => ec 0 j (by unfold Ec; omega)
  have m88 : ∀ j, Mm'.1 88 j = Mm.1 88 j := fun j => em 88 j (by unfold Em; omega)
  refine ⟨r1, ?_, ?_, ⟨fun i hi => ?_, fun i hi => ?_, fun i d hi hd => ?_, fun i hi => ?_, fun i hi => ?_, fun i hi => ?_, fun i hi => ?_, fun i hi => ?_, fun i hi => ?_⟩, fun i hi => ?_, fun i hi => ?_, fun i hi => ?_, fun i hi => ?_, fun i hi => ?_, ?_, ?_, r12.c (fun k j z => ec k j (by unfold S8 at z; unfold Ec; omega)), r13.c (fun k j z => em k j (by unfold S89 at z; unfold Em; omega)), r14.c (fun k j z => ec k j (by unfold Ec; cases b <;> simp at z <;> omega)), r15.c (fun k j z => em k j (by unfold Em; omega)), r16.1.mv el, r16.2⟩
  · unfold rC
    rw [c0, c0, c0, c0, c0, c0]; exact r2
  · unfold rM
    rw [m88, m88, m88, m88, m88, m88]; exact r3
  · obtain ⟨p, be, tk, x, e1, e2, e3, e4, a1, a2, a3, a4, a5, a6⟩ := q1 i hi
    obtain ⟨x', f1, f2⟩ := uvr i hi tk e3 a5
    exact ⟨p, be, tk, x', (em 105 i (by unfold Em; omega)).trans e1, (em 106 i (by unfold Em; omega)).trans e2, (em 107 i (by unfold Em; omega)).trans e3, f1, a1, a2, a3, a4, a5, f2⟩
  · rw [em 109 i (by unfold Em; omega), dcnt_c (fun q => em 135 q (by unfold Em; omega))]; exact q2 i hi
  · rw [em 113 _ (by unfold Em; omega)]; exact q3 i d hi hd
  · obtain ⟨f, p, x, fa, e1, e2, e3, e4, a1, a2, a3, a4, a5⟩ := q4 i hi
    obtain ⟨f', x', g1, g2, g3, g4⟩ := usr i hi p e2 a3
    exact ⟨f', p, x', fa, g1, (em 116 i (by unfold Em; omega)).trans e2, g3, (em 118 i (by unfold Em; omega)).trans e4, g2, a2, a3, g4, a5⟩
  · rw [em 125 i (by unfold Em; omega)]; exact q5 i hi
  · rw [em 119 i (by unfold Em; omega), em 120 i (by unfold Em; omega), em 121 i (by unfold Em; omega)]; exact q6 i hi
  · rw [em 132 i (by unfold Em; omega), em 133 i (by unfold Em; omega), em 134 i (by unfold Em; omega)]; exact q7 i hi
  · rw [em 114 i (by unfold Em; omega)]; exact q8 i hi
  · rw [em 135 i (by unfold Em; omega)]; exact q9 i hi
  · obtain ⟨g0, g1, g2, g3, g4, g6, g7, g8, g9⟩ := r5 i hi
    obtain ⟨n3, n9⟩ := uv i hi
    rw [ec (2 * i + 42) 0 (by unfold Ec; omega), ec (2 * i + 42) 1 (by unfold Ec; omega), ec (2 * i + 42) 2 (by unfold Ec; omega), ec (2 * i + 42) 4 (by unfold Ec; omega), ec (2 * i + 42) 6 (by unfold Ec; omega), ec (2 * i + 42) 7 (by unfold Ec; omega), ec (2 * i + 42) 8 (by unfold Ec; omega), em 105 i (by unfold Em; omega), em 106 i (by unfold Em; omega), em 107 i (by unfold Em; omega), em 109 i (by unfold Em; omega), em 114 i (by unfold Em; omega), em 110 i (by unfold Em; omega), em 111 i (by unfold Em; omega)]
    exact ⟨g0, g1, g2, n3, g4, g6, g7, g8, n9⟩
  · refine ⟨by rw [ec (2 * i + 42) 5 (by unfold Ec; omega), em 113 _ (by unfold Em; omega)]; exact (r6 i hi).1, fun d h1 h2 h3 => by rw [ec (2 * i + 43) _ (by unfold Ec; omega), em 113 _ (by unfold Em; omega)]; exact (r6 i hi).2.1 d h1 h2 h3, fun j h1 h2 => by rw [ec (2 * i + 43) _ (by unfold Ec; omega)]; exact (r6 i hi).2.2 j h1 h2⟩
  · obtain ⟨g0, g1, g2, g3, g4⟩ := r7 i hi
    obtain ⟨n0, n2⟩ := us i hi
    rw [ec (2 * i + 66) 1 (by unfold Ec; omega), ec (2 * i + 66) 3 (by unfold Ec; omega), em 116 i (by unfold Em; omega), em 118 i (by unfold Em; omega)]
    exact ⟨n0, g1, n2, g3, fun j hj => by rw [ec (2 * i + 67) j (by unfold Ec; omega), em 125 _ (by unfold Em; omega)]; exact g4 j hj⟩
  · obtain ⟨g0, g1, g2, g3, g4, g5, g6, g7, g8⟩ := r8 i hi
    obtain ⟨n3, n4, n5⟩ := ut i hi
    rw [ec (i + 74) 0 (by unfold Ec; omega), ec (i + 74) 1 (by unfold Ec; omega), ec (i + 74) 2 (by unfold Ec; omega), ec (i + 74) 6 (by unfold Ec; omega), ec (i + 74) 7 (by unfold Ec; omega), ec (i + 74) 8 (by unfold Ec; omega), em 119 i (by unfold Em; omega), em 120 i (by unfold Em; omega), em 121 i (by unfold Em; omega), em 136 i (by unfold Em; omega), em 137 i (by unfold Em; omega), em 138 i (by unfold Em; omega)]
    exact ⟨g0, g1, g2, n3, n4, n5, g6, g7, g8⟩
  · have gi : ∀ j, Mc'.1 (i + 78) j = Mc.1 (i + 78) j := fun j => ec _ _ (by unfold Ec; omega)
    rw [gi, gi, gi, gi, em 132 i (by unfold Em; omega), em 134 i (by unfold Em; omega), em 135 i (by unfold Em; omega), em 133 i (by unfold Em; omega)]
    refine ⟨(r9 i hi).1, (r9 i hi).2.1, (r9 i hi).2.2.1, fun hq u hl hu => ?_⟩
    rw [em 105 _ (by unfold Em; omega)]
    exact (r9 i hi).2.2.2 hq u hl hu
  · rw [c0, m88]; exact r10
  · rw [c0, m88]; exact r11
/-- what the relation holds of the cells that a day writes -/
theorem Rl.now (r : Rl b h nv ns nt nb nd nw t s Mc Mm) : (∀ i, i < 12 → Mc.1 (2 * i + 42) 3 = Mm.1 108 i ∧ Mc.1 (2 * i + 42) 9 = Mm.1 112 i) ∧ (∀ i, i < nv → ∀ tk, Mm.1 107 i = nI tk → tk ≤ 100000 → ∃ x, Mm.1 108 i = nI x ∧ x ≤ tk) ∧ (∀ i, i < 4 → Mc.1 (2 * i + 66) 0 = Mm.1 115 i ∧ Mc.1 (2 * i + 66) 2 = Mm.1 117 i) ∧ (∀ i, i < ns → ∀ p, Mm.1 116 i = nI p → p ≤ 200000 → ∃ f x, Mm.1 115 i = nI f ∧ f ≤ 100000 ∧ Mm.1 117 i = nI x ∧ x ≤ p) ∧ ∀ i, i < 4 → Mc.1 (i + 74) 3 = Mm.1 122 i ∧ Mc.1 (i + 74) 4 = Mm.1 123 i ∧ Mc.1 (i + 74) 5 = Mm.1 124 i := by
  obtain ⟨r1, r2, r3, r4, r5, r6, r7, r8, -⟩ := r
  refine ⟨fun i hi => ⟨(r5 i hi).2.2.2.1, (r5 i hi).2.2.2.2.2.2.2.2⟩, fun i hi tk e ht => ?_, fun i hi => ⟨(r7 i hi).1, (r7 i hi).2.2.1⟩, fun i hi p e hp => ?_, fun i hi => ⟨(r8 i hi).2.2.2.1, (r8 i hi).2.2.2.2.1, (r8 i hi).2.2.2.2.2.1⟩⟩
  · obtain ⟨p, be, tk', x, e1, e2, e3, e4, a1, a2, a3, a4, a5, a6⟩ := r4.1 i hi
    have := neq_t (by omega) (by omega) (e.symm.trans e3)
    exact ⟨x, e4, by omega⟩
  · obtain ⟨f, p', x, fa, e1, e2, e3, e4, a1, a2, a3, a4, a5⟩ := r4.2.2.2.1 i hi
    have := neq_t (by omega) (by omega) (e.symm.trans e2)
    exact ⟨f, x, e1, a1, e3, by omega⟩
theorem fall_eq {f fa : Nat} (hf : f ≤ 100000) (hfa : fa ≤ 100) : nI f - (nI f * nI fa + 99) / 100 = nI (f - (f * fa + 99) / 100) ∧ nI f - (((nI f).toInt64 * (nI fa).toInt64 + 99) / 100).toInt32 = nI (f - (f * fa + 99) / 100) := by
  have h1 : f * fa ≤ f * 100 := Nat.mul_le_mul_left f hfa
  have h2 : (f * fa + 99) / 100 ≤ f := by omega
  constructor
  · rw [show (99 : Int32) = nI 99 from rfl, show (100 : Int32) = nI 100 from rfl, pk_mul, nI_add, nI_div (by omega) (by omega), pk_sub h2]
  · rw [lI_of (by omega), lI_of (by omega), show (99 : Int64) = lI 99 from rfl, show (100 : Int64) = lI 100 from rfl, lI_mul, lI_add, lI_div (by omega) (by omega), lI_32 (by omega), pk_sub h2]
set_option maxHeartbeats 1000000 in
theorem run_R (r : Rl b h nv ns nt nb nd nw t s Mc Mm) {i : Nat} (hi : i < ns) : Rl b h nv ns nt nb nd nw t s (fRun i Mc) (fmRun i Mm) := by
  have l2 := r.1.2.1
  obtain ⟨v1, v2, v3, v4, v5⟩ := r.now
  obtain ⟨f, p, x, fa, e1, e2, e3, e4, a1, a2, a3, a4, a5⟩ := r.2.2.2.1.2.2.2.1 i hi
  obtain ⟨g0, g1, g2, g3, -⟩ := r.2.2.2.2.2.2.1 i (by omega)
  obtain ⟨w1, w2⟩ := fall_eq a1 a5
  have hp : mmin (nI x + nI f) (nI p) = nI (min (x + f) p) := by rw [nI_add, mmin_N (by omega) (by omega)]
  refine r.up1 (fun k j z => ?_) (fun k j z => ?_) rfl (fun q hq => ?_) (fun q hq tk e ht => ?_) (fun q hq => ?_) (fun q hq p' e hp' => ?_) (fun q hq => ?_)
  · unfold fRun; unfold Ec at z; rw [gwI_n (by omega), gwI_n (by omega)]
  · unfold fmRun; unfold Em at z; rw [gwI_n (by omega), gwI_n (by omega)]
  · unfold fRun fmRun; rw [gwI_n (by omega), gwI_n (by omega), gwI_n (by omega), gwI_n (by omega), gwI_n (by omega), gwI_n (by omega), gwI_n (by omega), gwI_n (by omega)]; exact v1 q hq
  · unfold fmRun; rw [gwI_n (by omega), gwI_n (by omega)]; exact v2 q hq tk e ht
  · unfold fRun fmRun
    by_cases z : q = i
    · subst z
      rw [gwI_s, gwI_s, gwI_n (by omega), gwI_s, gwI_n (by omega), gwI_s, g0, g1, g2, g3, e1, e2, e3, e4, w1, w2]
      exact ⟨rfl, rfl⟩
    · rw [gwI_n (by omega), gwI_n (by omega), gwI_n (by omega), gwI_n (by omega), gwI_n (by omega), gwI_n (by omega), gwI_n (by omega), gwI_n (by omega)]; exact v3 q hq
  · unfold fmRun
    by_cases z : q = i
    · subst z
      have := neq_t (by omega) (by omega) (e.symm.trans e2)
      rw [gwI_s, gwI_n (by omega), gwI_s, e1, e2, e3, e4, w2, hp]
      exact ⟨_, _, rfl, by omega, rfl, by omega⟩
    · rw [gwI_n (by omega), gwI_n (by omega), gwI_n (by omega), gwI_n (by omega)]; exact v4 q hq p' e hp'
  · unfold fRun fmRun; rw [gwI_n (by omega), gwI_n (by omega), gwI_n (by omega), gwI_n (by omega), gwI_n (by omega), gwI_n (by omega), gwI_n (by omega), gwI_n (by omega), gwI_n (by omega), gwI_n (by omega), gwI_n (by omega), gwI_n (by omega)]; exact v5 q hq
set_option maxHeartbeats 1000000 in
theorem well_R (r : Rl b h nv ns nt nb nd nw t s Mc Mm) {i : Nat} (hi : i < nv) : Rl b h nv ns nt nb nd nw t s (fWell i Mc) (fmWell i Mm) := by
  have l1 := r.1.1
  obtain ⟨v1, v2, v3, v4, v5⟩ := r.now
  obtain ⟨p, be, tk, x, e1, e2, e3, e4, a1, a2, a3, a4, a5, a6⟩ := r.2.2.2.1.1 i hi
  obtain ⟨w, w1, w2⟩ := r.2.2.2.1.2.1 i (by omega)
  have w3 := dcnt_le Mm 10
  obtain ⟨g0, g1, g2, g3, g4, -⟩ := r.2.2.2.2.1 i (by omega)
  have hp : mmin (nI x + nI w) (nI tk) = nI (min (x + w) tk) := by rw [nI_add, mmin_N (by omega) (by omega)]
  refine r.up1 (fun k j z => ?_) (fun k j z => ?_) rfl (fun q hq => ?_) (fun q hq tk' e ht => ?_) (fun q hq => ?_) (fun q hq p' e hp' => ?_) (fun q hq => ?_)
  · unfold fWell; unfold Ec at z; rw [gwI_n (by omega)]
  · unfold fmWell; unfold Em at z; rw [gwI_n (by omega)]
  · unfold fWell fmWell
    by_cases z : q = i
    · subst z
      rw [gwI_s, gwI_s, gwI_n (by omega), gwI_n (by omega), g2, g3, g4]
      exact ⟨rfl, (v1 q hq).2⟩
    · rw [gwI_n (by omega), gwI_n (by omega), gwI_n (by omega), gwI_n (by omega)]; exact v1 q hq
  · unfold fmWell
    by_cases z : q = i
    · subst z
      have := neq_t (by omega) (by omega) (e.symm.trans e3)
      rw [gwI_s, e3, e4, w1, hp]
      exact ⟨_, rfl, by omega⟩
    · rw [gwI_n (by omega)]; exact v2 q hq tk' e ht
  · unfold fWell fmWell; rw [gwI_n (by omega), gwI_n (by omega), gwI_n (by omega), gwI_n (by omega)]; exact v3 q hq
  · unfold fmWell; rw [gwI_n (by omega), gwI_n (by omega)]; exact v4 q hq p' e hp'
  · unfold fWell fmWell; rw [gwI_n (by omega), gwI_n (by omega), gwI_n (by omega), gwI_n (by omega), gwI_n (by omega), gwI_n (by omega)]; exact v5 q hq
set_option maxHeartbeats 1000000 in
theorem rest_R (r : Rl b h nv ns nt nb nd nw t s Mc Mm) {i : Nat} (hi : i < 4) : Rl b h nv ns nt nb nd nw t s (fRest i Mc) (fmRest i Mm) := by
  obtain ⟨v1, v2, v3, v4, v5⟩ := r.now
  refine r.up1 (fun k j z => ?_) (fun k j z => ?_) rfl (fun q hq => ?_) (fun q hq tk' e ht => ?_) (fun q hq => ?_) (fun q hq p' e hp' => ?_) (fun q hq => ?_)
  · unfold fRest; unfold Ec at z; rw [gwI_n (by omega)]
  · unfold fmRest; unfold Em at z; rw [gwI_n (by omega)]
  · unfold fRest fmRest; rw [gwI_n (by omega), gwI_n (by omega), gwI_n (by omega), gwI_n (by omega)]; exact v1 q hq
  · unfold fmRest; rw [gwI_n (by omega)]; exact v2 q hq tk' e ht
  · unfold fRest fmRest; rw [gwI_n (by omega), gwI_n (by omega), gwI_n (by omega), gwI_n (by omega)]; exact v3 q hq
  · unfold fmRest; rw [gwI_n (by omega), gwI_n (by omega)]; exact v4 q hq p' e hp'
  · unfold fRest fmRest
    by_cases z : q = i
    · subst z
      rw [gwI_s, gwI_s, gwI_n (by omega), gwI_n (by omega), gwI_n (by omega), gwI_n (by omega)]
      exact ⟨rfl, (v5 q hq).2⟩
    · rw [gwI_n (by omega), gwI_n (by omega), gwI_n (by omega), gwI_n (by omega), gwI_n (by omega), gwI_n (by omega)]; exact v5 q hq
set_option maxHeartbeats 2000000 in
theorem drive_R (r : Rl b h nv ns nt nb nd nw t s Mc Mm) {a u v : Nat} (ha : a < nt) (hu : u < ns) (hv : v < nv) : Rl b h nv ns nt nb nd nw t s (fDrive Mc a u v) (mDrive Mm a u v) := by
  have l1 := r.1.1
  have l2 := r.1.2.1
  have l3 := r.1.2.2.1
  obtain ⟨v1, v2, v3, v4, v5⟩ := r.now
  obtain ⟨p, be, tk, x, e1, e2, e3, e4, -, -, -, -, a5, a6⟩ := r.2.2.2.1.1 v hv
  obtain ⟨f, pp, y, fa, f1, f2, f3, f4, c1, c2, c3, c4, -⟩ := r.2.2.2.1.2.2.2.1 u hu
  obtain ⟨u9, g, m, -, d2, -, -, -, d5, -⟩ := r.2.2.2.1.2.2.2.2.2.1 a ha
  obtain ⟨-, -, h2, h3, -, -, -, -, h9⟩ := r.2.2.2.2.1 v (by omega)
  obtain ⟨-, -, s2, -, s4⟩ := r.2.2.2.2.2.2.1 u (by omega)
  obtain ⟨-, t1, -, t3, t4, t5, -⟩ := r.2.2.2.2.2.2.2.1 a (by omega)
  have hL : mLoad Mm a u v = nI (min (min (tk - x) y) g) := by
    unfold mLoad
    rw [e3, e4, f3, d2, pk_sub a6, mmin_N (by omega) (by omega), mmin_N (by omega) (by omega)]
  have hD : dLoad Mc a u v = nI (min (min (tk - x) y) g) := by
    unfold dLoad
    rw [t1, s2, h2, h3, e3, e4, f3, d2, pk_sub a6, mmin_N (by omega) (by omega), mmin_N (by omega) (by omega)]
    congr 1
    omega
  obtain ⟨L, hLe⟩ : ∃ L, L = min (min (tk - x) y) g := ⟨_, rfl⟩
  rw [← hLe] at hL hD
  have hx : mmin (nI x + nI L) (nI tk) = nI (x + L) := by
    rw [nI_add, mmin_N (by omega) (by omega)]
    congr 1
    omega
  refine r.up1 (fun k j z => ?_) (fun k j z => ?_) rfl (fun q hq => ?_) (fun q hq tk' e ht => ?_) (fun q hq => ?_) (fun q hq p' e hp' => ?_) (fun q hq => ?_)
  · unfold fDrive; unfold Ec at z; rw [gwI_n (by omega), gwI_n (by omega), gwI_n (by omega), gwI_n (by omega), gwI_n (by omega), gwI_n (by omega)]
  · unfold mDrive; unfold Em at z; rw [gwI_n (by omega), gwI_n (by omega), gwI_n (by omega), gwI_n (by omega), gwI_n (by omega), gwI_n (by omega)]
  · unfold fDrive mDrive
    by_cases z : q = v
    · subst z
      constructor
      · rw [gwI_n (by omega), gwI_n (by omega), gwI_n (by omega), gwI_n (by omega), gwI_s, gwI_n (by omega), gwI_n (by omega), gwI_n (by omega), gwI_n (by omega), gwI_s, hL, hD, h2, h3, e3, e4, hx, nI_add]
      · rw [gwI_n (by omega), gwI_n (by omega), gwI_n (by omega), gwI_s, gwI_s, h9]
    · constructor
      · rw [gwI_n (by omega), gwI_n (by omega), gwI_n (by omega), gwI_n (by omega), gwI_n (by omega), gwI_n (by omega), gwI_n (by omega), gwI_n (by omega), gwI_n (by omega), gwI_n (by omega), gwI_n (by omega), gwI_n (by omega)]; exact (v1 q hq).1
      · rw [gwI_n (by omega), gwI_n (by omega), gwI_n (by omega), gwI_n (by omega), gwI_n (by omega), gwI_n (by omega), gwI_n (by omega), gwI_n (by omega), gwI_n (by omega), gwI_n (by omega), gwI_n (by omega), gwI_n (by omega)]; exact (v1 q hq).2
  · unfold mDrive
    by_cases z : q = v
    · subst z
      have := neq_t (by omega) (by omega) (e.symm.trans e3)
      rw [gwI_n (by omega), gwI_n (by omega), gwI_n (by omega), gwI_n (by omega), gwI_s, hL, e4, nI_add]
      exact ⟨_, rfl, by omega⟩
    · rw [gwI_n (by omega), gwI_n (by omega), gwI_n (by omega), gwI_n (by omega), gwI_n (by omega), gwI_n (by omega)]; exact v2 q hq tk' e ht
  · unfold fDrive mDrive
    constructor
    · rw [gwI_n (by omega), gwI_n (by omega), gwI_n (by omega), gwI_n (by omega), gwI_n (by omega), gwI_n (by omega), gwI_n (by omega), gwI_n (by omega), gwI_n (by omega), gwI_n (by omega), gwI_n (by omega), gwI_n (by omega)]; exact (v3 q hq).1
    · by_cases z : q = u
      · subst z
        rw [gwI_n (by omega), gwI_n (by omega), gwI_n (by omega), gwI_n (by omega), gwI_n (by omega), gwI_s, gwI_n (by omega), gwI_n (by omega), gwI_n (by omega), gwI_n (by omega), gwI_n (by omega), gwI_s, hL, hD, s2]
      · rw [gwI_n (by omega), gwI_n (by omega), gwI_n (by omega), gwI_n (by omega), gwI_n (by omega), gwI_n (by omega), gwI_n (by omega), gwI_n (by omega), gwI_n (by omega), gwI_n (by omega), gwI_n (by omega), gwI_n (by omega)]; exact (v3 q hq).2
  · unfold mDrive
    by_cases z : q = u
    · subst z
      have := neq_t (by omega) (by omega) (e.symm.trans f2)
      rw [gwI_n (by omega), gwI_n (by omega), gwI_n (by omega), gwI_n (by omega), gwI_n (by omega), gwI_n (by omega), gwI_n (by omega), gwI_n (by omega), gwI_n (by omega), gwI_n (by omega), gwI_n (by omega), gwI_s, hL, f1, f3, pk_sub (show L ≤ y by omega)]
      exact ⟨_, _, rfl, c1, rfl, by omega⟩
    · rw [gwI_n (by omega), gwI_n (by omega), gwI_n (by omega), gwI_n (by omega), gwI_n (by omega), gwI_n (by omega), gwI_n (by omega), gwI_n (by omega), gwI_n (by omega), gwI_n (by omega), gwI_n (by omega), gwI_n (by omega)]; exact v4 q hq p' e hp'
  · unfold fDrive mDrive
    by_cases z : q = a
    · subst z
      refine ⟨?_, ?_, ?_⟩
      · rw [gwI_n (by omega), gwI_s, gwI_n (by omega), gwI_n (by omega), gwI_s, t3, s4 v (by omega)]
      · rw [gwI_s, gwI_n (by omega), gwI_s, t4, s4 v (by omega)]
      · rw [gwI_n (by omega), gwI_n (by omega), gwI_s, gwI_n (by omega), gwI_n (by omega), gwI_n (by omega), gwI_s, hL, hD, t5]
    · refine ⟨?_, ?_, ?_⟩
      · rw [gwI_n (by omega), gwI_n (by omega), gwI_n (by omega), gwI_n (by omega), gwI_n (by omega), gwI_n (by omega), gwI_n (by omega), gwI_n (by omega), gwI_n (by omega), gwI_n (by omega), gwI_n (by omega), gwI_n (by omega)]; exact (v5 q hq).1
      · rw [gwI_n (by omega), gwI_n (by omega), gwI_n (by omega), gwI_n (by omega), gwI_n (by omega), gwI_n (by omega), gwI_n (by omega), gwI_n (by omega), gwI_n (by omega), gwI_n (by omega), gwI_n (by omega), gwI_n (by omega)]; exact (v5 q hq).2.1
      · rw [gwI_n (by omega), gwI_n (by omega), gwI_n (by omega), gwI_n (by omega), gwI_n (by omega), gwI_n (by omega), gwI_n (by omega), gwI_n (by omega), gwI_n (by omega), gwI_n (by omega), gwI_n (by omega), gwI_n (by omega)]; exact (v5 q hq).2.2
/-- the morning, and rest -/
theorem runs_R (r : Rl b h nv ns nt nb nd nw t s Mc Mm) : ∀ n, n ≤ ns → Rl b h nv ns nt nb nd nw t s (itr fRun n Mc) (itr fmRun n Mm)
  | 0, _ => r
  | n + 1, hn => run_R (runs_R r n (by omega)) hn
theorem wells_R (r : Rl b h nv ns nt nb nd nw t s Mc Mm) : ∀ n, n ≤ nv → Rl b h nv ns nt nb nd nw t s (itr fWell n Mc) (itr fmWell n Mm)
  | 0, _ => r
  | n + 1, hn => well_R (wells_R r n (by omega)) hn
theorem rests_R (r : Rl b h nv ns nt nb nd nw t s Mc Mm) : ∀ n, n ≤ 4 → Rl b h nv ns nt nb nd nw t s (itr fRest n Mc) (itr fmRest n Mm)
  | 0, _ => r
  | n + 1, hn => rest_R (rests_R r n (by omega)) hn
end

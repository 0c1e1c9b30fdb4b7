/-! the plan of the class and that of the model, from memories that are related -/
theorem setS39 {M : gM} {s : pS} {j : Nat} : (setS M s).1 39 j = s.2.1 j := by simp [setS]
theorem setS15 {M : gM} {s : pS} : (setS M s).1 23 15 = s.2.2.1 := by simp [setS]
theorem setS16 {M : gM} {s : pS} : (setS M s).1 23 16 = s.2.2.2 := by simp [setS]
section
variable {b : Bool} {h nv ns nt nb nd nw : Nat} {t : tS} {s : oT} {Mc0 Mc Mm M9 M9' : gM}
set_option maxHeartbeats 2000000 in
theorem plan_link (r : Rl b h nv ns nt nb nd nw t s Mc0 Mm) (ec : ∀ k j, ¬ (74 ≤ k ∧ k < 78 ∧ j = 3) → Mc.1 k j = Mc0.1 k j) {sp : Nat → Nat} (hsp : ∀ t, t < nt → Mm.1 119 t = nI (sp t) ∧ sp t < ns) {lkc W lkm : Nat → Int32} (hlc : ∀ v, v < nv → lkc v = wantV Mc0 (2 * v + 42) s.1 s.2.1 s.2.2.1 s.2.2.2.1 s.2.2.2.2 - Mc0.1 (2 * v + 42) 3) (hW : ∀ v, v < nv → W v = mwantV Mm v (nI (nw + 1)) s.1 s.2.1 s.2.2.1 s.2.2.2.1 s.2.2.2.2) (hlm : ∀ v, v < nv → lkm v = if Mm.1 108 v < W v then 1 else 0) (hC : mkP Mc M9 ns nt nv sp lkc) (hM : fpR Mm M9' nt nv sp W lkm) :
    ndc lkc nv = ndc lkm nv ∧ (∀ k, k < min6 (ndc lkm nv) → M9.1 28 k = nI (whoN lkm nv k)) ∧ M9.1 23 15 = M9'.1 88 57 ∧ M9.1 23 16 = M9'.1 88 58 ∧ ∃ be : Nat → Nat, (∀ k, be k ≤ nt) ∧ (∀ k, k < min6 (ndc lkm nv) → M9.1 39 k = dg nt (be k)) ∧ ∀ k, k < min6 (ndc lkm nv) → M9'.1 129 k = nI (be k) := by
  have l1 := r.1.1
  have l2 := r.1.2.1
  have l3 := r.1.2.2.1
  have r5 := r.2.2.2.2.1
  have r7 := r.2.2.2.2.2.2.1
  have r8 := r.2.2.2.2.2.2.2.1
  obtain ⟨q1, q2, q3, q4, q5, q6, q7, q8, q9⟩ := r.2.2.2.1
  -- a village in numbers
  have hv : ∀ v, v < nv → ∃ x tk w, Mm.1 108 v = nI x ∧ Mm.1 107 v = nI tk ∧ W v = nI w ∧ x ≤ tk ∧ tk ≤ 100000 ∧ w ≤ 400000 ∧ (0 < lkc v ↔ x < w) ∧ (0 < lkm v ↔ x < w) ∧ (x < w → lkc v = nI (w - x)) := by
    intro v hv
    obtain ⟨p, be, tk, x, -, -, e3, e4, -, -, -, -, t2, x2⟩ := q1 v hv
    obtain ⟨w, w1, w2⟩ := want_N r hv (dy := nI (nw + 1))
    have eW := (hW v hv).trans w2
    have ec0 : lkc v = nI w - nI x := by
      rw [hlc v hv, want_eq r hv, nI_1, w2, (r5 v (by omega)).2.2.2.1, e4]
    refine ⟨x, tk, w, e4, e3, eW, x2, t2, w1, ?_, ?_, fun hx => by rw [ec0, pk_sub (by omega)]⟩
    · rw [ec0]
      constructor
      · intro z
        have z2 := Int32.lt_iff_toInt_lt.mp z
        rw [pk_sub_toInt (by omega) (by omega)] at z2
        have z3 : (0 : Int32).toInt = 0 := rfl
        omega
      · intro z
        rw [pk_sub (by omega)]
        exact nI_lt (a := 0) (b := w - x) (by omega) (by omega)
    · rw [hlm v hv, e4, eW]
      by_cases z : x < w
      · rw [if_pos (nI_lt z (by omega))]
        exact ⟨fun _ => z, fun _ => by decide⟩
      · rw [if_neg (fun y => z (nlt_t (by omega) (by omega) y))]
        exact ⟨fun y => absurd y (by decide), fun y => absurd y z⟩
  have en : ∀ i, i ≤ nv → ndc lkc i = ndc lkm i := ndc_c (fun v hv' => by
    obtain ⟨x, tk, w, -, -, -, -, -, -, a, c, -⟩ := hv v hv'
    exact a.trans c.symm)
  have hn6 := min6_le (ndc lkm nv)
  have hwv : ∀ k, k < min6 (ndc lkm nv) → whoN lkm nv k < nv ∧ 0 < lkm (whoN lkm nv k) ∧ ndc lkm (whoN lkm nv k) = k ∧ k < 6 := fun k hk => by
    have h6 : k < 6 ∧ k < ndc lkm nv := by unfold min6 at hk; split at hk <;> omega
    obtain ⟨a, b, c⟩ := whoN_at lkm nv k h6.2
    exact ⟨a, b, c, h6.1⟩
  obtain ⟨Mp, M1, ⟨p1, p2, p3, p4, p5, p6, p7⟩, g2, g3, g4, g5, rfl⟩ := hC
  obtain ⟨M2, ⟨n1, n2, n3, n4⟩, hB⟩ := hM
  have f1 : ∀ k j, ¬ Sf k j → M1.1 k j = Mp.1 k j := g2.2
  have f2 : ∀ k j, ¬ Sn k j → M2.1 k j = Mm.1 k j := n1.2
  have hpv : ∀ k, k < min6 (ndc lkm nv) → Mp.1 28 k = nI (whoN lkm nv k) ∧ Mp.1 29 k = lkc (whoN lkm nv k) ∧ Mp.1 30 k = Mc.1 (2 * whoN lkm nv k + 42) 2 - Mc.1 (2 * whoN lkm nv k + 42) 3 ∧ ∀ t, t < nt → Mp.1 (k + 32) t = 2 * Mc.1 (2 * sp t + 67) (whoN lkm nv k) := fun k hk => by
    obtain ⟨a, b9, c, d⟩ := hwv k hk
    obtain ⟨x, tk, w, -, -, -, -, -, -, z1, z2, -⟩ := hv _ a
    have := p7 _ a (z1.mpr (z2.mp b9))
    rw [en (whoN lkm nv k) (by omega), c] at this
    exact this d
  have hmv : ∀ k, k < min6 (ndc lkm nv) → M2.1 127 k = W (whoN lkm nv k) := fun k hk => by
    obtain ⟨a, b9, c, d⟩ := hwv k hk
    have := (n4 _ a b9 (by omega)).2
    rw [c] at this
    exact this
  rw [en nv (Nat.le_refl nv)] at g3 g4
  rw [en nv (Nat.le_refl nv)]
  generalize hn : min6 (ndc lkm nv) = n at *
  generalize hw : whoN lkm nv = wv at *
  -- in numbers
  obtain ⟨tr, etr⟩ : ∃ f : Nat → Nat → Nat, ∀ k t, f k t = max 1 (2 * (Mm.1 125 (12 * sp t + wv k)).toNatClampNeg) := ⟨fun k t => max 1 (2 * (Mm.1 125 (12 * sp t + wv k)).toNatClampNeg), fun _ _ => rfl⟩
  obtain ⟨hd, ehd⟩ : ∃ f : Nat → Nat, ∀ t, f t = (Mm.1 120 t).toNatClampNeg := ⟨fun t => (Mm.1 120 t).toNatClampNeg, fun _ => rfl⟩
  obtain ⟨rm, erm⟩ : ∃ f : Nat → Nat, ∀ k, f k = (Mm.1 107 (wv k)).toNatClampNeg - (Mm.1 108 (wv k)).toNatClampNeg := ⟨fun k => (Mm.1 107 (wv k)).toNatClampNeg - (Mm.1 108 (wv k)).toNatClampNeg, fun _ => rfl⟩
  obtain ⟨lk, elk⟩ : ∃ f : Nat → Nat, ∀ k, f k = (W (wv k)).toNatClampNeg - (Mm.1 108 (wv k)).toNatClampNeg := ⟨fun k => (W (wv k)).toNatClampNeg - (Mm.1 108 (wv k)).toNatClampNeg, fun _ => rfl⟩
  obtain ⟨ml0, eml⟩ : ∃ f : Nat → Nat, ∀ t, f t = (Mm.1 121 t).toNatClampNeg := ⟨fun t => (Mm.1 121 t).toNatClampNeg, fun _ => rfl⟩
  obtain ⟨pl0, epl⟩ : ∃ f : Nat → Nat, ∀ t, f t = (Mm.1 117 t).toNatClampNeg := ⟨fun t => (Mm.1 117 t).toNatClampNeg, fun _ => rfl⟩
  have htr1 : ∀ k t, 1 ≤ tr k t := fun k t => by rw [etr]; omega
  have m1 : ∀ k t, k < n → t < nt → 2 * Mm.1 125 (12 * sp t + wv k) = nI (tr k t) ∧ tr k t ≤ 400 := fun k t hk ht => by
    have a := (hwv k hk).1
    have c := (hsp t ht).2
    obtain ⟨w, w1, w2, w3⟩ := q5 (12 * sp t + wv k) (by omega)
    have e : tr k t = 2 * w := by rw [etr, w1, nI_clamp (by omega)]; omega
    rw [w1, e]
    exact ⟨pk_mul 2 w, by omega⟩
  have m2 : ∀ k, k < n → ∃ x tk w, Mm.1 108 (wv k) = nI x ∧ Mm.1 107 (wv k) = nI tk ∧ W (wv k) = nI w ∧ x ≤ tk ∧ x < w ∧ tk < 1000000 ∧ w < 1000000 ∧ lk k = w - x ∧ rm k = tk - x ∧ lkc (wv k) = nI (w - x) := fun k hk => by
    obtain ⟨a, b9, -, -⟩ := hwv k hk
    obtain ⟨x, tk, w, e1, e2, e3, x2, t2, w1, z1, z2, z3⟩ := hv _ a
    have hx := z2.mp b9
    refine ⟨x, tk, w, e1, e2, e3, x2, hx, by omega, by omega, ?_, ?_, z3 hx⟩
    · rw [elk, e3, e1, nI_clamp (by omega), nI_clamp (by omega)]
    · rw [erm, e2, e1, nI_clamp (by omega), nI_clamp (by omega)]
  have m3 : ∀ t, t < nt → Mm.1 120 t = nI (hd t) ∧ hd t < 1000000 ∧ Mm.1 121 t = nI (ml0 t) ∧ ml0 t < 1000000 := fun t ht => by
    obtain ⟨u, g, m, -, e2, e3, -, -, z2, z3⟩ := q6 t ht
    rw [ehd, eml, e2, e3, nI_clamp (by omega), nI_clamp (by omega)]
    exact ⟨rfl, by omega, rfl, by omega⟩
  have m4 : ∀ t, t < nt → Mm.1 117 (sp t) = nI (pl0 (sp t)) ∧ pl0 (sp t) < 1000000 := fun t ht => by
    obtain ⟨f, p, x, fa, -, -, e3, -, -, -, z2, z3, -⟩ := q4 (sp t) (hsp t ht).2
    rw [epl, e3, nI_clamp (by omega)]
    exact ⟨rfl, by omega⟩
  have k1 : ∀ k t, k < n → t < nt → Mp.1 (k + 32) t = nI (tr k t) ∧ tr k t ≤ 400 := fun k t hk ht => by
    have a := (hwv k hk).1
    have c := (hsp t ht).2
    rw [(hpv k hk).2.2.2 t ht, ec _ _ (by omega), (r7 (sp t) (by omega)).2.2.2.2 (wv k) (by omega)]
    exact m1 k t hk ht
  have k2 : ∀ k, k < n → Mp.1 29 k = nI (lk k) ∧ lk k < 1000000 ∧ Mp.1 30 k = nI (rm k) ∧ rm k < 1000000 := fun k hk => by
    have a := (hwv k hk).1
    obtain ⟨x, tk, w, e1, e2, e3, x2, hx, t2, w1, elk, erm, ec0⟩ := m2 k hk
    refine ⟨by rw [(hpv k hk).2.1, ec0, elk], by omega, ?_, by omega⟩
    rw [(hpv k hk).2.2.1, ec _ _ (by omega), ec _ _ (by omega), (r5 (wv k) (by omega)).2.2.1, (r5 (wv k) (by omega)).2.2.2.1, e1, e2, erm, pk_sub x2]
  have k3 : ∀ t, t < nt → Mp.1 26 t = nI (hd t) ∧ hd t < 1000000 := fun t ht => by
    rw [(p6 t ht).2.1, ec _ _ (by omega), (r8 t (by omega)).2.1]
    exact ⟨(m3 t ht).1, (m3 t ht).2.1⟩
  have k4 : ∀ t, t < nt → Mp.1 27 t = nI (ml0 t) ∧ ml0 t < 1000000 := fun t ht => by
    rw [(p6 t ht).2.2, ec _ _ (by omega), (r8 t (by omega)).2.2.1]
    exact (m3 t ht).2.2
  have k5 : ∀ t, t < nt → Mp.1 24 (sp t) = nI (pl0 (sp t)) ∧ pl0 (sp t) < 1000000 := fun t ht => by
    have c := (hsp t ht).2
    rw [p5 (sp t) c, ec _ _ (by omega), (r7 (sp t) (by omega)).2.2.1]
    exact m4 t ht
  obtain ⟨lo, le, hb, hb2⟩ := bnd_N k1 k2 k3 k4 k5 hn6
  have hs : sM M1 tr hd rm lk nt n lo le := by
    refine ⟨fun k t hk ht => ?_, fun k hk => ?_, fun t ht => ?_, fun k hk => ?_⟩
    · rw [f1 (k + 32) t (by unfold Sf; omega)]; exact k1 k t hk ht
    · rw [f1 29 k (by unfold Sf; omega), f1 30 k (by unfold Sf; omega)]; exact k2 k hk
    · rw [f1 26 t (by unfold Sf; omega)]; exact k3 t ht
    · rw [(g3 k hk).1, (g3 k hk).2]; exact hb2 k hk
  have hm : mNum M2 tr hd rm lk sp wv nt n := by
    refine ⟨fun k t hk ht => ?_, fun k hk => ?_, fun t ht => ?_⟩
    · rw [f2 125 _ (by unfold Sn; omega)]; exact m1 k t hk ht
    · obtain ⟨x, tk, w, e1, e2, e3, x2, hx, t2, w1, elk, erm, -⟩ := m2 k hk
      exact ⟨x, tk, w, (f2 108 _ (by unfold Sn; omega)).trans e1, (f2 107 _ (by unfold Sn; omega)).trans e2, (hmv k hk).trans e3, x2, hx, t2, w1, elk, erm⟩
    · rw [f2 120 t (by unfold Sn; omega)]; exact ⟨(m3 t ht).1, (m3 t ht).2.1⟩
  obtain ⟨be, b1, b2, b3, b4, b5⟩ := plan_same l3 hn6 hs hb (fun k hk => by
      obtain ⟨x, tk, w, -, -, -, -, hx, -, -, elk, -, -⟩ := m2 k hk
      omega) htr1 (fun t ht => by rw [f1 27 t (by unfold Sf; omega)]; exact k4 t ht) (fun t ht => by rw [f1 24 _ (by unfold Sf; omega)]; exact k5 t ht) g4 g5 hm (fun t ht => by rw [f2 121 t (by unfold Sn; omega)]; exact (m3 t ht).2.2.1) (fun t ht => by rw [f2 117 _ (by unfold Sn; omega)]; exact (m4 t ht).1) hB
  refine ⟨rfl, fun k hk => ?_, ?_, ?_, be, b1, fun k hk => ?_, b3⟩
  · rw [setS_n (by omega), f1 28 k (by unfold Sf; omega)]; exact (hpv k hk).1
  · rw [setS15]; exact b4
  · rw [setS16]; exact b5
  · rw [setS39]; exact b2 k hk
end
theorem findP_no {M : gM} {v : Int32} : ∀ r i, (∀ k, i ≤ k → k < i + r → ¬ M.1 28 k = v) → findP M v r i = -1 := by
  intro r
  induction r with
  | zero => intro i _; rfl
  | succ r ih =>
    intro i hno
    unfold findP
    rw [if_neg (hno i (Nat.le_refl i) (by omega))]
    exact ih (i + 1) (fun k h1 h2 => hno k (by omega) (by omega))
theorem findP_at {M : gM} {v : Int32} {k : Nat} (hk : M.1 28 k = v) : ∀ r i, i ≤ k → k < i + r → (∀ j, i ≤ j → j < k → ¬ M.1 28 j = v) → findP M v r i = M.1 39 k := by
  intro r
  induction r with
  | zero => intro i h1 h2; omega
  | succ r ih =>
    intro i h1 h2 hno
    unfold findP
    by_cases e : i = k
    · rw [e, if_pos hk]
    · rw [if_neg (hno i (Nat.le_refl i) (by omega))]
      exact ih (i + 1) (by omega) (by omega) (fun j h3 h4 => hno j (by omega) h4)
theorem mfind_no {M : gM} {v : Int32} {nt : Nat} : ∀ n, (∀ k, k < n → ¬ M.1 126 k = v) → mfind M v nt n = -1 := by
  intro n
  induction n with
  | zero => intro _; rfl
  | succ n ih =>
    intro hno
    rw [mfind_n (fun z => hno n (by omega) z.1)]
    exact ih (fun k hk => hno k (by omega))
theorem mfind_at {M : gM} {v : Int32} {nt k : Nat} (hk : M.1 126 k = v) : ∀ n, k < n → (∀ j, j < n → M.1 126 j = v → j = k) → mfind M v nt n = if M.1 129 k < nI nt then M.1 129 k else -1 := by
  intro n
  induction n with
  | zero => intro h1; omega
  | succ n ih =>
    intro h1 hno
    by_cases e : k = n
    · subst e
      by_cases q : M.1 129 k < nI nt
      · rw [mfind_y ⟨hk, q⟩, if_pos q]
      · rw [mfind_n (fun z => q z.2), if_neg q]
        refine mfind_no k (fun j hj z => ?_)
        have := hno j (by omega) z
        omega
    · rw [mfind_n (fun z => e (hno n (by omega) z.1).symm)]
      exact ih (by omega) (fun j hj z => hno j (by omega) z)
theorem planned_eq {Mc Mm : gM} {wv be : Nat → Nat} {n nt nv : Nat} (lv : nv ≤ 12) (lt : nt ≤ 4) (hw : ∀ k, k < n → Mc.1 28 k = nI (wv k) ∧ Mm.1 126 k = nI (wv k) ∧ wv k < nv) (inj : ∀ k k', k < n → k' < n → wv k = wv k' → k = k') (hb : ∀ k, k < n → Mc.1 39 k = dg nt (be k) ∧ Mm.1 129 k = nI (be k) ∧ be k ≤ nt) (v : Int32) : findP Mc v n 0 = mfind Mm v nt n := by
  by_cases q : ∃ k, k < n ∧ nI (wv k) = v
  · obtain ⟨k, hk, e⟩ := q
    have hu : ∀ j, j < n → nI (wv j) = v → j = k := fun j hj z => by
      have h1 := (hw j hj).2.2
      have h2 := (hw k hk).2.2
      exact inj j k hj hk (neq_t (by omega) (by omega) (z.trans e.symm))
    rw [findP_at (k := k) ((hw k hk).1.trans e) n 0 (Nat.zero_le k) (by omega) (fun j _ hj z => by
      have := hu j (by omega) ((hw j (by omega)).1.symm.trans z)
      omega), mfind_at (k := k) ((hw k hk).2.1.trans e) n hk (fun j hj z => hu j hj ((hw j hj).2.1.symm.trans z))]
    obtain ⟨b1, b2, b3⟩ := hb k hk
    rw [b1, b2]
    unfold dg
    by_cases z : be k < nt
    · rw [if_pos z, if_pos (nI_lt z (by omega))]
    · rw [if_neg z, if_neg (fun y => z (nlt_t (by omega) (by omega) y))]
  · rw [findP_no n 0 (fun k _ hk z => q ⟨k, by omega, (hw k (by omega)).1.symm.trans z⟩), mfind_no n (fun k hk z => q ⟨k, hk, (hw k hk).2.1.symm.trans z⟩)]

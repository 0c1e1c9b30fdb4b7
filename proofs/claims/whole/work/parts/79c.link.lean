theorem litr_N {F : Nat → Int32} {B : Nat → Bool} {A : Nat → Int32} {ST : Nat → Nat} {C : Nat → Nat × Int32} {be : Bool} {us : Int32} {nl : Nat} (hA : ∀ i, i < nl → ∃ v, v ≤ 99 ∧ A i = nI v) (hu : ∃ v, v ≤ 99 ∧ us = nI v) : ∀ n i, i + n ≤ nl → ∃ v, v ≤ 99 ∧ litr F B A ST C be us n i = nI v := by
  intro n
  induction n with
  | zero => intro i _; exact hu
  | succ n ih =>
    intro i hi
    unfold litr
    split
    · exact hA i (by omega)
    · exact ih (i + 1) (by omega)
section
variable {b : Bool} {h nv ns nt nb nd nw : Nat} {t : tS} {s : oT} {M M' : gM}
theorem want_N (r : Rl b h nv ns nt nb nd nw t s M M') {i : Nat} (hi : i < nv) {dy : Int32} : ∃ w, w ≤ 400000 ∧ mwantV M' i dy s.1 s.2.1 s.2.2.1 s.2.2.2.1 s.2.2.2.2 = nI w := by
  obtain ⟨p, be, tk, x, e1, e2, -, -, -, p2, b2, -⟩ := r.2.2.2.1.1 i hi
  have ha : aOK s := r.2.2.2.2.2.2.2.2.2.2.2.2.2.2.2.2
  obtain ⟨u, u1, u2⟩ := litr_N (F := mfct M' i dy) (B := s.2.1) (ST := s.2.2.2.1) (C := s.2.2.2.2) (be := false) (us := 10) ha ⟨10, by omega, rfl⟩ s.1 0 (by omega)
  obtain ⟨v, v1, v2⟩ := litr_N (F := mfct M' i dy) (B := s.2.1) (ST := s.2.2.2.1) (C := s.2.2.2.2) (be := true) (us := 20) ha ⟨20, by omega, rfl⟩ s.1 0 (by omega)
  refine ⟨p * u + be * v, ?_, ?_⟩
  · have h1 := Nat.mul_le_mul p2 u1
    have h2 := Nat.mul_le_mul b2 v1
    omega
  · unfold mwantV
    rw [e1, e2, u2, v2, pk_mul, pk_mul, nI_add]
end
theorem ndc_c {f g : Nat → Int32} {n : Nat} (e : ∀ v, v < n → (0 < f v ↔ 0 < g v)) : ∀ i, i ≤ n → ndc f i = ndc g i
  | 0, _ => rfl
  | i + 1, hi => by
    rw [ndc_s, ndc_s, ndc_c e i (by omega)]
    by_cases q : 0 < f i
    · rw [if_pos q, if_pos ((e i (by omega)).mp q)]
    · rw [if_neg q, if_neg (fun z => q ((e i (by omega)).mpr z))]
section
variable {tr : Nat → Nat → Nat} {hd rm lk sp ml0 pl0 : Nat → Nat} {T n : Nat} {M : gM}
theorem canS_I (h1 : ∀ k t, k < n → t < T → M.1 (k + 32) t = nI (tr k t) ∧ tr k t ≤ 400) (h2 : ∀ k, k < n → M.1 29 k = nI (lk k) ∧ lk k < 1000000 ∧ M.1 30 k = nI (rm k) ∧ rm k < 1000000) (h3 : ∀ t, t < T → M.1 26 t = nI (hd t) ∧ hd t < 1000000) (hml : ∀ t, t < T → M.1 27 t = nI (ml0 t) ∧ ml0 t < 1000000) (hpl : ∀ t, t < T → M.1 24 (sp t) = nI (pl0 (sp t)) ∧ pl0 (sp t) < 1000000) {p t : Nat} (hp : p < n) (ht : t < T) : (¬ M.1 27 t < M.1 (p + 32) t ∧ ¬ pLoad M sp (M.1 24) t p < M.1 29 p) ↔ canS tr hd rm lk sp ml0 pl0 p t := by
  have hl : pLoad M sp (M.1 24) t p = nI (ld hd rm sp pl0 t p) := by
    unfold pLoad ld
    rw [(h3 t ht).1, (hpl t ht).1, (h2 p hp).2.2.1, mmin_N (by have := (h3 t ht).2; omega) (by have := (hpl t ht).2; omega), mmin_N (by have := (h3 t ht).2; omega) (by have := (h2 p hp).2.2.2; omega)]
  have hl2 : ld hd rm sp pl0 t p < 1000000 := by have := (h3 t ht).2; unfold ld; omega
  have a1 := (hml t ht).2
  have a2 := (h1 p t hp ht).2
  have a3 := (h2 p hp).2.1
  unfold canS
  rw [hl, (hml t ht).1, (h1 p t hp ht).1, (h2 p hp).1, nI_ltI (by omega) (by omega), nI_ltI (by omega) (by omega)]
  omega
theorem pLeast_N (h1 : ∀ k t, k < n → t < T → M.1 (k + 32) t = nI (tr k t) ∧ tr k t ≤ 400) (h2 : ∀ k, k < n → M.1 29 k = nI (lk k) ∧ lk k < 1000000 ∧ M.1 30 k = nI (rm k) ∧ rm k < 1000000) (h3 : ∀ t, t < T → M.1 26 t = nI (hd t) ∧ hd t < 1000000) (hml : ∀ t, t < T → M.1 27 t = nI (ml0 t) ∧ ml0 t < 1000000) (hpl : ∀ t, t < T → M.1 24 (sp t) = nI (pl0 (sp t)) ∧ pl0 (sp t) < 1000000) {p : Nat} (hp : p < n) : ∀ t, t ≤ T → (pLeast M sp p t = -1 ∧ ∀ t', t' < t → ¬ canS tr hd rm lk sp ml0 pl0 p t') ∨ ∃ w, w ≤ 400 ∧ pLeast M sp p t = nI w ∧ ∀ t', t' < t → canS tr hd rm lk sp ml0 pl0 p t' → w ≤ tr p t' := by
  intro t
  induction t with
  | zero => exact fun _ => Or.inl ⟨rfl, fun t' h => absurd h (Nat.not_lt_zero _)⟩
  | succ t ih =>
    intro ht
    have hc := canS_I h1 h2 h3 hml hpl hp (show t < T by omega)
    have ht2 := h1 p t hp (by omega)
    unfold pLeast
    rcases ih (by omega) with ⟨g1, g2⟩ | ⟨w, g1, g2, g3⟩
    · by_cases q : canS tr hd rm lk sp ml0 pl0 p t
      · rw [if_pos ⟨hc.mpr q, Or.inl g1⟩, ht2.1]
        refine Or.inr ⟨_, ht2.2, rfl, fun t' h4 h5 => ?_⟩
        by_cases e : t' = t
        · rw [e]; exact Nat.le_refl _
        · exact absurd h5 (g2 t' (by omega))
      · rw [if_neg (fun z => q (hc.mp z.1)), g1]
        refine Or.inl ⟨rfl, fun t' h4 => ?_⟩
        by_cases e : t' = t
        · rw [e]; exact q
        · exact g2 t' (by omega)
    · have hne : ¬ nI w = -1 := fun e => by
        have := nI_pos (n := w) (by omega)
        rw [e] at this
        exact this (by decide)
      by_cases q : canS tr hd rm lk sp ml0 pl0 p t ∧ tr p t < w
      · rw [if_pos ⟨hc.mpr q.1, Or.inr (by rw [g2, ht2.1, nI_leI (by omega) (by omega)]; omega)⟩, ht2.1]
        refine Or.inr ⟨_, ht2.2, rfl, fun t' h4 h5 => ?_⟩
        by_cases e : t' = t
        · rw [e]; exact Nat.le_refl _
        · have := g3 t' (by omega) h5
          omega
      · rw [if_neg (fun z => q ⟨hc.mp z.1, by
          rcases z.2 with y | y
          · rw [g2] at y; exact absurd y hne
          · rw [g2, ht2.1, nI_leI (by omega) (by omega)] at y; omega⟩), g2]
        refine Or.inr ⟨w, g1, rfl, fun t' h4 h5 => ?_⟩
        by_cases e : t' = t
        · subst e
          rcases Nat.lt_or_ge (tr p t') w with z | z
          · exact absurd ⟨h5, z⟩ q
          · exact z
        · exact g3 t' (by omega) h5
theorem nI_c {x : Int32} {k : Nat} (h : x = nI k) (hk : k < 2147483648) : x.toNatClampNeg = k := by rw [h, nI_clamp (by omega)]
theorem bnd_N (h1 : ∀ k t, k < n → t < T → M.1 (k + 32) t = nI (tr k t) ∧ tr k t ≤ 400) (h2 : ∀ k, k < n → M.1 29 k = nI (lk k) ∧ lk k < 1000000 ∧ M.1 30 k = nI (rm k) ∧ rm k < 1000000) (h3 : ∀ t, t < T → M.1 26 t = nI (hd t) ∧ hd t < 1000000) (hml : ∀ t, t < T → M.1 27 t = nI (ml0 t) ∧ ml0 t < 1000000) (hpl : ∀ t, t < T → M.1 24 (sp t) = nI (pl0 (sp t)) ∧ pl0 (sp t) < 1000000) (hn : n ≤ 6) : ∃ lo le : Nat → Nat, bndOK tr hd rm lk sp T n ml0 pl0 lo le ∧ ∀ k, k ≤ n → lostN M sp T n (n - k) = nI (lo k) ∧ leastN M sp T n (n - k) = nI (le k) ∧ lo k ≤ 6 ∧ le k ≤ 2400 := by
  have hj : ∀ j, j ≤ n → ∃ a c, lostN M sp T n j = nI a ∧ leastN M sp T n j = nI c ∧ a ≤ j ∧ c ≤ 400 * j := by
    intro j
    induction j with
    | zero => exact fun _ => ⟨0, 0, rfl, rfl, Nat.le_refl _, Nat.le_refl _⟩
    | succ j ih =>
      intro hj
      obtain ⟨a, c, e1, e2, l1, l2⟩ := ih (by omega)
      rw [lostN_s, leastN_s, e1, e2]
      rcases pLeast_N h1 h2 h3 hml hpl (show n - 1 - j < n by omega) T (Nat.le_refl T) with ⟨g1, -⟩ | ⟨w, g1, g2, -⟩
      · rw [if_pos g1, if_pos g1, nI_1, Int32.add_zero]
        exact ⟨a + 1, c, rfl, rfl, by omega, by omega⟩
      · have hne : ¬ nI w = -1 := fun e => by
          have := nI_pos (n := w) (by omega)
          rw [e] at this
          exact this (by decide)
        rw [g2, if_neg hne, if_neg hne, nI_add, Int32.add_zero]
        exact ⟨a, c + w, rfl, rfl, by omega, by omega⟩
  refine ⟨fun k => (lostN M sp T n (n - k)).toNatClampNeg, fun k => (leastN M sp T n (n - k)).toNatClampNeg, ⟨?_, ?_, fun k hk => ?_⟩, fun k hk => ?_⟩
  · show (lostN M sp T n (n - n)).toNatClampNeg = 0
    rw [Nat.sub_self]
    rfl
  · show (leastN M sp T n (n - n)).toNatClampNeg = 0
    rw [Nat.sub_self]
    rfl
  · obtain ⟨a, c, e1, e2, l1, l2⟩ := hj (n - (k + 1)) (by omega)
    show (_ ∧ (lostN M sp T n (n - k)).toNatClampNeg = (lostN M sp T n (n - (k + 1))).toNatClampNeg + 1 ∧ (leastN M sp T n (n - k)).toNatClampNeg = (leastN M sp T n (n - (k + 1))).toNatClampNeg) ∨ ((lostN M sp T n (n - k)).toNatClampNeg = (lostN M sp T n (n - (k + 1))).toNatClampNeg ∧ ∃ w, (leastN M sp T n (n - k)).toNatClampNeg = (leastN M sp T n (n - (k + 1))).toNatClampNeg + w ∧ _)
    rw [show n - k = (n - (k + 1)) + 1 by omega, lostN_s, leastN_s, show n - 1 - (n - (k + 1)) = k by omega, e1, e2]
    rcases pLeast_N h1 h2 h3 hml hpl hk T (Nat.le_refl T) with ⟨g1, g3⟩ | ⟨w, g1, g2, g3⟩
    · rw [if_pos g1, if_pos g1, nI_1, Int32.add_zero, nI_clamp (by omega), nI_clamp (by omega), nI_clamp (by omega)]
      exact Or.inl ⟨g3, rfl, rfl⟩
    · have hne : ¬ nI w = -1 := fun e => by
        have := nI_pos (n := w) (by omega)
        rw [e] at this
        exact this (by decide)
      rw [g2, if_neg hne, if_neg hne, nI_add, Int32.add_zero, nI_clamp (by omega), nI_clamp (by omega), nI_clamp (by omega)]
      exact Or.inr ⟨rfl, w, rfl, g3⟩
  · obtain ⟨a, c, e1, e2, l1, l2⟩ := hj (n - k) (by omega)
    show lostN M sp T n (n - k) = nI (lostN M sp T n (n - k)).toNatClampNeg ∧ leastN M sp T n (n - k) = nI (leastN M sp T n (n - k)).toNatClampNeg ∧ (lostN M sp T n (n - k)).toNatClampNeg ≤ 6 ∧ (leastN M sp T n (n - k)).toNatClampNeg ≤ 2400
    rw [e1, e2, nI_clamp (by omega), nI_clamp (by omega)]
    exact ⟨rfl, rfl, by omega, by omega⟩
end

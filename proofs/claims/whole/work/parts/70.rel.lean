/-! class and model, side by side -/
/-- villages, all twelve: people, beasts, tank, in, well, dry, in a row, in all, trips -/
def rV (Mc Mm : gM) : Prop := ∀ i, i < 12 → Mc.1 (2 * i + 42) 0 = Mm.1 105 i ∧ Mc.1 (2 * i + 42) 1 = Mm.1 106 i ∧ Mc.1 (2 * i + 42) 2 = Mm.1 107 i ∧ Mc.1 (2 * i + 42) 3 = Mm.1 108 i ∧ Mc.1 (2 * i + 42) 4 = Mm.1 109 i ∧ Mc.1 (2 * i + 42) 6 = Mm.1 114 i ∧ Mc.1 (2 * i + 42) 7 = Mm.1 110 i ∧ Mc.1 (2 * i + 42) 8 = Mm.1 111 i ∧ Mc.1 (2 * i + 42) 9 = Mm.1 112 i
/-- what was given: the latest day's, and the week's -/
def rG (nw : Nat) (Mc Mm : gM) : Prop := ∀ i, i < 12 → Mc.1 (2 * i + 42) 5 = Mm.1 113 (400 * i + nw) ∧ (∀ d, 1 ≤ d → d ≤ nw → nw < d + 7 → Mc.1 (2 * i + 43) ((d - 1) % 7) = Mm.1 113 (400 * i + d)) ∧ ∀ j, nw ≤ j → j < 7 → Mc.1 (2 * i + 43) j = 0
def rS (Mc Mm : gM) : Prop := ∀ i, i < 4 → Mc.1 (2 * i + 66) 0 = Mm.1 115 i ∧ Mc.1 (2 * i + 66) 1 = Mm.1 116 i ∧ Mc.1 (2 * i + 66) 2 = Mm.1 117 i ∧ Mc.1 (2 * i + 66) 3 = Mm.1 118 i ∧ ∀ j, j < 12 → Mc.1 (2 * i + 67) j = Mm.1 125 (12 * i + j)
def rT (Mc Mm : gM) : Prop := ∀ t, t < 4 → Mc.1 (t + 74) 0 = Mm.1 119 t ∧ Mc.1 (t + 74) 1 = Mm.1 120 t ∧ Mc.1 (t + 74) 2 = Mm.1 121 t ∧ Mc.1 (t + 74) 3 = Mm.1 122 t ∧ Mc.1 (t + 74) 4 = Mm.1 123 t ∧ Mc.1 (t + 74) 5 = Mm.1 124 t ∧ Mc.1 (t + 74) 6 = Mm.1 136 t ∧ Mc.1 (t + 74) 7 = Mm.1 137 t ∧ Mc.1 (t + 74) 8 = Mm.1 138 t
def rB (nb : Nat) (Mc Mm : gM) : Prop := ∀ q, q < 10 → Mc.1 (q + 78) 0 = Mm.1 132 q ∧ Mc.1 (q + 78) 1 = Mm.1 134 q ∧ Mc.1 (q + 78) 3 = Mm.1 135 q ∧ (q < nb → ∀ u, u < 12 → Mm.1 132 q = nI u → Mc.1 (q + 78) 2 = Mm.1 133 q * Mm.1 105 u)
/-- counts of the class, and of the model -/
def rC (nv ns nt nb nd nw : Nat) (M : gM) : Prop := M.1 0 7 = nI nv ∧ M.1 0 8 = nI ns ∧ M.1 0 9 = nI nt ∧ M.1 0 10 = nI nb ∧ M.1 0 11 = nI nd ∧ M.1 0 12 = nI nw
def rM (nv ns nt nb nd nw : Nat) (M : gM) : Prop := M.1 88 26 = nI nv ∧ M.1 88 38 = nI ns ∧ M.1 88 43 = nI nt ∧ M.1 88 62 = nI nb ∧ M.1 88 67 = nI nd ∧ M.1 88 25 = nI nw
def rL (nv ns nt nb nd nw : Nat) : Prop := nv ≤ 12 ∧ ns ≤ 4 ∧ nt ≤ 4 ∧ nb ≤ 10 ∧ nd ≤ 100 ∧ nw < 400
/-- how many bores are drilled -/
def dcnt (M : gM) : Nat → Nat
  | 0 => 0
  | q + 1 => dcnt M q + (if M.1 135 q = 0 then 0 else 1)
theorem dcnt_le (M : gM) : ∀ n, dcnt M n ≤ n
  | 0 => Nat.le_refl 0
  | n + 1 => by
    have := dcnt_le M n
    unfold dcnt
    split <;> omega
theorem dcnt_c {M M' : gM} (e : ∀ q, M'.1 135 q = M.1 135 q) : ∀ n, dcnt M' n = dcnt M n
  | 0 => rfl
  | n + 1 => by unfold dcnt; rw [dcnt_c e n, e n]
theorem dcnt_s {M : gM} {q : Nat} (h : M.1 135 q = 0) : ∀ n, q < n → dcnt (gwI M 135 q 1) n = dcnt M n + 1
  | 0, hn => absurd hn (Nat.not_lt_zero q)
  | n + 1, hn => by
    unfold dcnt
    by_cases e : q = n
    · subst e
      have g : ∀ m, m ≤ q → dcnt (gwI M 135 q 1) m = dcnt M m := by
        intro m
        induction m with
        | zero => intro _; rfl
        | succ m ih =>
          intro hm
          unfold dcnt
          rw [ih (by omega), gwI_n (by omega)]
      rw [g q (Nat.le_refl q), gwI_s, h]
      rfl
    · rw [dcnt_s h n (by omega), gwI_n (by omega)]
      omega
/-- ranges -/
def rR (nv ns nt nb nw : Nat) (M : gM) : Prop :=
  (∀ i, i < nv → ∃ p be t x, M.1 105 i = nI p ∧ M.1 106 i = nI be ∧ M.1 107 i = nI t ∧ M.1 108 i = nI x ∧ 1 ≤ p ∧ p ≤ 2000 ∧ be ≤ 2000 ∧ 1 ≤ t ∧ t ≤ 100000 ∧ x ≤ t) ∧
  (∀ i, i < 12 → ∃ w, M.1 109 i = nI w ∧ w ≤ 5000 * dcnt M 10) ∧
  (∀ i d, i < 12 → (d ≤ nw ∨ (nv ≤ i ∧ d < 400)) → ∃ g, M.1 113 (400 * i + d) = nI g ∧ g ≤ 100000 ∧ (nv ≤ i → g = 0)) ∧
  (∀ i, i < ns → ∃ f p x fa, M.1 115 i = nI f ∧ M.1 116 i = nI p ∧ M.1 117 i = nI x ∧ M.1 118 i = nI fa ∧ f ≤ 100000 ∧ 1 ≤ p ∧ p ≤ 200000 ∧ x ≤ p ∧ fa ≤ 100) ∧
  (∀ i, i < 48 → ∃ w, M.1 125 i = nI w ∧ 1 ≤ w ∧ w ≤ 200) ∧
  (∀ t, t < nt → ∃ s h m, M.1 119 t = nI s ∧ M.1 120 t = nI h ∧ M.1 121 t = nI m ∧ s < ns ∧ 1 ≤ h ∧ h ≤ 20000 ∧ m ≤ 999) ∧
  (∀ q, q < nb → ∃ u ch co, M.1 132 q = nI u ∧ M.1 133 q = nI ch ∧ M.1 134 q = nI co ∧ u < nv ∧ 1 ≤ ch ∧ ch ≤ 1000 ∧ 1 ≤ co ∧ co ≤ 1000) ∧
  (∀ i, i < 12 → M.1 114 i = 0 ∨ M.1 114 i = 1) ∧ ∀ q, q < 10 → M.1 135 q = 0 ∨ M.1 135 q = 1
/-- the standing lines' litres -/
def aOK (s : oT) : Prop := ∀ i, i < s.1 → ∃ v, v ≤ 99 ∧ s.2.2.1 i = nI v
theorem ln_num {T : cS} {n a u : Nat} {c : cS} (h : (lnG T n a u c).1 = 0) : (T (a + 1)).1 = 0 ∧ ¬ 99 < (T (a + 1)).2 := by
  unfold lnG at h
  by_cases h1 : ¬ ((T a).1 = 12 ∨ (T a).1 = 13)
  · rw [if_pos h1] at h; exact absurd (show _ = 0 from h) (Nat.succ_ne_zero _)
  · rw [if_neg h1] at h
    by_cases h2 : n = 16
    · rw [if_pos h2] at h; exact absurd (show _ = 0 from h) (Nat.succ_ne_zero _)
    · rw [if_neg h2] at h
      by_cases h3 : (T (a + 1)).1 ≠ 0
      · rw [if_pos h3] at h; exact absurd (show _ = 0 from h) (Nat.succ_ne_zero _)
      · rw [if_neg h3] at h
        by_cases h4 : 99 < (T (a + 1)).2
        · rw [if_pos h4] at h; exact absurd (show _ = 0 from h) (Nat.succ_ne_zero _)
        · exact ⟨Classical.not_not.mp h3, h4⟩
theorem tx_aok {T : cS} (hT : ∀ a, tW (T a)) : ∀ f a s, aOK s → aOK (txG T f a s).2.2 := by
  intro f
  induction f with
  | zero => intro a s h; exact h
  | succ f ih =>
    intro a s h
    unfold txG
    by_cases h1 : (T a).1 = 18
    · rw [if_pos h1]; exact h
    · rw [if_neg h1]
      by_cases h2 : (lnG T s.1 a (s.2.2.2.1 s.1) s.2.2.2.2).1 = 0
      · rw [if_pos h2]
        refine ih _ _ (fun i hi => ?_)
        show ∃ v, v ≤ 99 ∧ (if i = s.1 then (T (a + 1)).2 else s.2.2.1 i) = nI v
        by_cases e : i = s.1
        · rw [if_pos e]
          obtain ⟨g1, g2⟩ := ln_num h2
          obtain ⟨v, v1, v2⟩ := (hT (a + 1)).2 g1
          rw [v2] at g2 ⊢
          exact ⟨v, Classical.byContradiction fun z => g2 (nI_lt (a := 99) (b := v) (by omega) (by omega)), rfl⟩
        · rw [if_neg e]
          exact h i (by have : i < s.1 + 1 := hi; omega)
      · rw [if_neg h2]; exact h
/-- the whole relation, of class's memory and model's -/
def Rl (b : Bool) (h nv ns nt nb nd nw : Nat) (t : tS) (s : oT) (Mc Mm : gM) : Prop :=
  rL nv ns nt nb nd nw ∧ rC nv ns nt nb nd nw Mc ∧ rM nv ns nt nb nd nw Mm ∧ rR nv ns nt nb nw Mm ∧ rV Mc Mm ∧ rG nw Mc Mm ∧ rS Mc Mm ∧ rT Mc Mm ∧ rB nb Mc Mm ∧ Mc.1 0 13 = Mm.1 88 37 ∧ Mc.1 0 14 = Mm.1 88 61 ∧ tpC Mc t ∧ tpM Mm t ∧ ordCs Mc (if b then 17 else 11) s ∧ ordMs Mm h s ∧ wdM Mm ∧ aOK s
/-- cells of the class that the relation reads, and of the model -/
def uC (b : Bool) (k j : Nat) : Prop := (k = 0 ∧ 7 ≤ j) ∨ (42 ≤ k ∧ k < 88) ∨ k = 8 ∨ (k = 7 ∧ j = 3) ∨ (k = (if b then 17 else 11) ∧ j < 7) ∨ ((if b then 17 else 11) < k ∧ k < (if b then 17 else 11) + 5)
def uM (k j : Nat) : Prop := (k = 88 ∧ (j = 2 ∨ j = 16 ∨ (25 ≤ j ∧ j < 44) ∨ 61 ≤ j)) ∨ k = 89 ∨ (94 ≤ k ∧ k < 100) ∨ (105 ≤ k ∧ k < 126) ∨ (132 ≤ k ∧ k < 139)
theorem ordCs.c {M M' : gM} {o : Nat} {s : oT} (h : ordCs M o s) (e : ∀ k j, (k = o ∧ j < 7) ∨ (o < k ∧ k < o + 5) → M'.1 k j = M.1 k j) : ordCs M' o s := by
  obtain ⟨h1, h2, h3, h4, h5, h6⟩ := h
  refine ⟨h1, by rw [e o 5 (by omega)]; exact h2, by rw [e o 6 (by omega)]; exact h3, h4, fun i hi => ?_, fun j hj => by rw [e (o + 4) j (by omega)]; exact h6 j hj⟩
  rw [e (o + 1) i (by omega), e (o + 2) i (by omega), e (o + 3) i (by omega)]
  exact h5 i hi
theorem Rl.c {b : Bool} {h nv ns nt nb nd nw : Nat} {t : tS} {s : oT} {Mc Mm Mc' : gM} (r : Rl b h nv ns nt nb nd nw t s Mc Mm) (e : ∀ k j, uC b k j → Mc'.1 k j = Mc.1 k j) : Rl b h nv ns nt nb nd nw t s Mc' Mm := by
  obtain ⟨r1, r2, r3, r4, r5, r6, r7, r8, r9, r10, r11, r12, r13, r14, r15, r16⟩ := r
  refine ⟨r1, ?_, r3, r4, fun i hi => ?_, fun i hi => ?_, fun i hi => ?_, fun i hi => ?_, fun i hi => ?_, ?_, ?_, ?_, r13, ?_, r15, r16⟩
  · unfold rC
    rw [e 0 7 (Or.inl ⟨rfl, by omega⟩), e 0 8 (Or.inl ⟨rfl, by omega⟩), e 0 9 (Or.inl ⟨rfl, by omega⟩), e 0 10 (Or.inl ⟨rfl, by omega⟩), e 0 11 (Or.inl ⟨rfl, by omega⟩), e 0 12 (Or.inl ⟨rfl, by omega⟩)]
    exact r2
  · have g : ∀ j, Mc'.1 (2 * i + 42) j = Mc.1 (2 * i + 42) j := fun j => e _ _ (Or.inr (Or.inl (by omega)))
    rw [g, g, g, g, g, g, g, g, g]
    exact r5 i hi
  · have g : ∀ j, Mc'.1 (2 * i + 42) j = Mc.1 (2 * i + 42) j := fun j => e _ _ (Or.inr (Or.inl (by omega)))
    have g2 : ∀ j, Mc'.1 (2 * i + 43) j = Mc.1 (2 * i + 43) j := fun j => e _ _ (Or.inr (Or.inl (by omega)))
    refine ⟨by rw [g]; exact (r6 i hi).1, fun d h1 h2 h3 => by rw [g2]; exact (r6 i hi).2.1 d h1 h2 h3, fun j h1 h2 => by rw [g2]; exact (r6 i hi).2.2 j h1 h2⟩
  · have g : ∀ j, Mc'.1 (2 * i + 66) j = Mc.1 (2 * i + 66) j := fun j => e _ _ (Or.inr (Or.inl (by omega)))
    have g2 : ∀ j, Mc'.1 (2 * i + 67) j = Mc.1 (2 * i + 67) j := fun j => e _ _ (Or.inr (Or.inl (by omega)))
    rw [g, g, g, g]
    exact ⟨(r7 i hi).1, (r7 i hi).2.1, (r7 i hi).2.2.1, (r7 i hi).2.2.2.1, fun j hj => by rw [g2]; exact (r7 i hi).2.2.2.2 j hj⟩
  · have g : ∀ j, Mc'.1 (i + 74) j = Mc.1 (i + 74) j := fun j => e _ _ (Or.inr (Or.inl (by omega)))
    rw [g, g, g, g, g, g, g, g, g]
    exact r8 i hi
  · have g : ∀ j, Mc'.1 (i + 78) j = Mc.1 (i + 78) j := fun j => e _ _ (Or.inr (Or.inl (by omega)))
    rw [g, g, g, g]
    exact r9 i hi
  · rw [e 0 13 (Or.inl ⟨rfl, by omega⟩)]; exact r10
  · rw [e 0 14 (Or.inl ⟨rfl, by omega⟩)]; exact r11
  · exact r12.c (fun k j z => e k j (by unfold S8 at z; unfold uC; omega))
  · exact r14.c (fun k j z => e k j (by unfold uC; omega))
theorem ordMs.c {M M' : gM} {h : Nat} {s : oT} (ho : ordMs M h s) (e : ∀ k j, (k = 88 ∧ j = 16) ∨ (94 ≤ k ∧ k ≤ 99) → M'.1 k j = M.1 k j) : ordMs M' h s := ordM.sm ho e
theorem Rl.m {b : Bool} {h nv ns nt nb nd nw : Nat} {t : tS} {s : oT} {Mc Mm Mm' : gM} (r : Rl b h nv ns nt nb nd nw t s Mc Mm) (e : ∀ k j, uM k j → Mm'.1 k j = Mm.1 k j) (e2 : ∀ w, w < 10 → Mm'.2.1 93 w = Mm.2.1 93 w) : Rl b h nv ns nt nb nd nw t s Mc Mm' := by
  obtain ⟨r1, r2, r3, r4, r5, r6, r7, r8, r9, r10, r11, r12, r13, r14, r15, r16⟩ := r
  have g : ∀ k j, (105 ≤ k ∧ k < 126) ∨ (132 ≤ k ∧ k < 139) → Mm'.1 k j = Mm.1 k j := fun k j hk => e k j (by unfold uM; omega)
  refine ⟨r1, r2, ?_, ?_, fun i hi => ?_, fun i hi => ?_, fun i hi => ?_, fun i hi => ?_, fun i hi => ?_, ?_, ?_, r12, ?_, r14, ?_, ?_⟩
  · unfold rM
    rw [e 88 26 (by unfold uM; omega), e 88 38 (by unfold uM; omega), e 88 43 (by unfold uM; omega), e 88 62 (by unfold uM; omega), e 88 67 (by unfold uM; omega), e 88 25 (by unfold uM; omega)]
    exact r3
  · obtain ⟨q1, q2, q3, q4, q5, q6, q7, q8, q9⟩ := r4
    refine ⟨fun i hi => ?_, fun i hi => ?_, fun i d hi hd => ?_, fun i hi => ?_, fun i hi => ?_, fun i hi => ?_, fun i hi => ?_, fun i hi => ?_, fun i hi => ?_⟩
    · rw [g 105 _ (by omega), g 106 _ (by omega), g 107 _ (by omega), g 108 _ (by omega)]; exact q1 i hi
    · rw [g 109 _ (by omega), dcnt_c (fun q => g 135 q (by omega))]; exact q2 i hi
    · rw [g 113 _ (by omega)]; exact q3 i d hi hd
    · rw [g 115 _ (by omega), g 116 _ (by omega), g 117 _ (by omega), g 118 _ (by omega)]; exact q4 i hi
    · rw [g 125 _ (by omega)]; exact q5 i hi
    · rw [g 119 _ (by omega), g 120 _ (by omega), g 121 _ (by omega)]; exact q6 i hi
    · rw [g 132 _ (by omega), g 133 _ (by omega), g 134 _ (by omega)]; exact q7 i hi
    · rw [g 114 _ (by omega)]; exact q8 i hi
    · rw [g 135 _ (by omega)]; exact q9 i hi
  · rw [g 105 _ (by omega), g 106 _ (by omega), g 107 _ (by omega), g 108 _ (by omega), g 109 _ (by omega), g 114 _ (by omega), g 110 _ (by omega), g 111 _ (by omega), g 112 _ (by omega)]
    exact r5 i hi
  · refine ⟨by rw [g 113 _ (by omega)]; exact (r6 i hi).1, fun d h1 h2 h3 => by rw [g 113 _ (by omega)]; exact (r6 i hi).2.1 d h1 h2 h3, (r6 i hi).2.2⟩
  · rw [g 115 _ (by omega), g 116 _ (by omega), g 117 _ (by omega), g 118 _ (by omega)]
    exact ⟨(r7 i hi).1, (r7 i hi).2.1, (r7 i hi).2.2.1, (r7 i hi).2.2.2.1, fun j hj => by rw [g 125 _ (by omega)]; exact (r7 i hi).2.2.2.2 j hj⟩
  · rw [g 119 _ (by omega), g 120 _ (by omega), g 121 _ (by omega), g 122 _ (by omega), g 123 _ (by omega), g 124 _ (by omega), g 136 _ (by omega), g 137 _ (by omega), g 138 _ (by omega)]
    exact r8 i hi
  · rw [g 132 _ (by omega), g 134 _ (by omega), g 135 _ (by omega), g 133 _ (by omega)]
    refine ⟨(r9 i hi).1, (r9 i hi).2.1, (r9 i hi).2.2.1, fun hq u hl hu => ?_⟩
    rw [g 105 _ (by omega)]
    exact (r9 i hi).2.2.2 hq u hl hu
  · rw [e 88 37 (by unfold uM; omega)]; exact r10
  · rw [e 88 61 (by unfold uM; omega)]; exact r11
  · exact r13.c (fun k j z => e k j (by unfold S89 at z; unfold uM; omega))
  · exact r15.c (fun k j z => e k j (by unfold uM; omega))
  · exact ⟨fun w hw => (e2 w hw).trans (r16.1 w hw), r16.2⟩

/-! the share -/
def sumN (f : Nat → Nat) : Nat → Nat
  | 0 => 0
  | n + 1 => sumN f n + f n
theorem sumI_N {f : Nat → Int32} {g : Nat → Nat} : ∀ n, (∀ j, j < n → f j = nI (g j)) → sumI f n = nI (sumN g n)
  | 0, _ => rfl
  | n + 1, e => by unfold sumI sumN; rw [sumI_N n (fun j hj => e j (by omega)), e n (by omega), nI_add]
theorem sumL_N {f : Nat → Int32} {g : Nat → Nat} : ∀ n, (∀ j, j < n → f j = nI (g j) ∧ g j < 2147483648) → sumL f n = lI (sumN g n)
  | 0, _ => rfl
  | n + 1, e => by unfold sumL sumN; rw [sumL_N n (fun j hj => e j (by omega)), (e n (by omega)).1, lI_of (e n (by omega)).2, lI_add]
theorem sumN_le {g : Nat → Nat} {c : Nat} : ∀ n, (∀ j, j < n → g j ≤ c) → sumN g n ≤ n * c
  | 0, _ => Nat.zero_le _
  | n + 1, e => by
    have := sumN_le n (fun j hj => e j (by omega))
    have h2 := e n (by omega)
    unfold sumN
    rw [Nat.succ_mul]
    omega
theorem week_big {gw gg : Nat → Nat} {nw : Nat} (h7 : 7 ≤ nw) (he : ∀ i, i < 7 → gw ((nw - 7 + i) % 7) = gg i) : sumN gw 7 = sumN gg 7 := by
  rcases (show (nw - 7) % 7 = 0 ∨ (nw - 7) % 7 = 1 ∨ (nw - 7) % 7 = 2 ∨ (nw - 7) % 7 = 3 ∨ (nw - 7) % 7 = 4 ∨ (nw - 7) % 7 = 5 ∨ (nw - 7) % 7 = 6 by omega) with ha | ha | ha | ha | ha | ha | ha
  · have e0 : gw 0 = gg 0 := by
      have := he 0 (by omega)
      rw [show (nw - 7 + 0) % 7 = 0 by omega] at this
      exact this
    have e1 : gw 1 = gg 1 := by
      have := he 1 (by omega)
      rw [show (nw - 7 + 1) % 7 = 1 by omega] at this
      exact this
    have e2 : gw 2 = gg 2 := by
      have := he 2 (by omega)
      rw [show (nw - 7 + 2) % 7 = 2 by omega] at this
      exact this
    have e3 : gw 3 = gg 3 := by
      have := he 3 (by omega)
      rw [show (nw - 7 + 3) % 7 = 3 by omega] at this
      exact this
    have e4 : gw 4 = gg 4 := by
      have := he 4 (by omega)
      rw [show (nw - 7 + 4) % 7 = 4 by omega] at this
      exact this
    have e5 : gw 5 = gg 5 := by
      have := he 5 (by omega)
      rw [show (nw - 7 + 5) % 7 = 5 by omega] at this
      exact this
    have e6 : gw 6 = gg 6 := by
      have := he 6 (by omega)
      rw [show (nw - 7 + 6) % 7 = 6 by omega] at this
      exact this
    simp only [sumN]
    omega
  · have e0 : gw 1 = gg 0 := by
      have := he 0 (by omega)
      rw [show (nw - 7 + 0) % 7 = 1 by omega] at this
      exact this
    have e1 : gw 2 = gg 1 := by
      have := he 1 (by omega)
      rw [show (nw - 7 + 1) % 7 = 2 by omega] at this
      exact this
    have e2 : gw 3 = gg 2 := by
      have := he 2 (by omega)
      rw [show (nw - 7 + 2) % 7 = 3 by omega] at this
      exact this
    have e3 : gw 4 = gg 3 := by
      have := he 3 (by omega)
      rw [show (nw - 7 + 3) % 7 = 4 by omega] at this
      exact this
    have e4 : gw 5 = gg 4 := by
      have := he 4 (by omega)
      rw [show (nw - 7 + 4) % 7 = 5 by omega] at this
      exact this
    have e5 : gw 6 = gg 5 := by
      have := he 5 (by omega)
      rw [show (nw - 7 + 5) % 7 = 6 by omega] at this
      exact this
    have e6 : gw 0 = gg 6 := by
      have := he 6 (by omega)
      rw [show (nw - 7 + 6) % 7 = 0 by omega] at this
      exact this
    simp only [sumN]
    omega
  · have e0 : gw 2 = gg 0 := by
      have := he 0 (by omega)
      rw [show (nw - 7 + 0) % 7 = 2 by omega] at this
      exact this
    have e1 : gw 3 = gg 1 := by
      have := he 1 (by omega)
      rw [show (nw - 7 + 1) % 7 = 3 by omega] at this
      exact this
    have e2 : gw 4 = gg 2 := by
      have := he 2 (by omega)
      rw [show (nw - 7 + 2) % 7 = 4 by omega] at this
      exact this
    have e3 : gw 5 = gg 3 := by
      have := he 3 (by omega)
      rw [show (nw - 7 + 3) % 7 = 5 by omega] at this
      exact this
    have e4 : gw 6 = gg 4 := by
      have := he 4 (by omega)
      rw [show (nw - 7 + 4) % 7 = 6 by omega] at this
      exact this
    have e5 : gw 0 = gg 5 := by
      have := he 5 (by omega)
      rw [show (nw - 7 + 5) % 7 = 0 by omega] at this
      exact this
    have e6 : gw 1 = gg 6 := by
      have := he 6 (by omega)
      rw [show (nw - 7 + 6) % 7 = 1 by omega] at this
      exact this
    simp only [sumN]
    omega
  · have e0 : gw 3 = gg 0 := by
      have := he 0 (by omega)
      rw [show (nw - 7 + 0) % 7 = 3 by omega] at this
      exact this
    have e1 : gw 4 = gg 1 := by
      have := he 1 (by omega)
      rw [show (nw - 7 + 1) % 7 = 4 by omega] at this
      exact this
    have e2 : gw 5 = gg 2 := by
      have := he 2 (by omega)
      rw [show (nw - 7 + 2) % 7 = 5 by omega] at this
      exact this
    have e3 : gw 6 = gg 3 := by
      have := he 3 (by omega)
      rw [show (nw - 7 + 3) % 7 = 6 by omega] at this
      exact this
    have e4 : gw 0 = gg 4 := by
      have := he 4 (by omega)
      rw [show (nw - 7 + 4) % 7 = 0 by omega] at this
      exact this
    have e5 : gw 1 = gg 5 := by
      have := he 5 (by omega)
      rw [show (nw - 7 + 5) % 7 = 1 by omega] at this
      exact this
    have e6 : gw 2 = gg 6 := by
      have := he 6 (by omega)
      rw [show (nw - 7 + 6) % 7 = 2 by omega] at this
      exact this
    simp only [sumN]
    omega
  · have e0 : gw 4 = gg 0 := by
      have := he 0 (by omega)
      rw [show (nw - 7 + 0) % 7 = 4 by omega] at this
      exact this
    have e1 : gw 5 = gg 1 := by
      have := he 1 (by omega)
      rw [show (nw - 7 + 1) % 7 = 5 by omega] at this
      exact this
    have e2 : gw 6 = gg 2 := by
      have := he 2 (by omega)
      rw [show (nw - 7 + 2) % 7 = 6 by omega] at this
      exact this
    have e3 : gw 0 = gg 3 := by
      have := he 3 (by omega)
      rw [show (nw - 7 + 3) % 7 = 0 by omega] at this
      exact this
    have e4 : gw 1 = gg 4 := by
      have := he 4 (by omega)
      rw [show (nw - 7 + 4) % 7 = 1 by omega] at this
      exact this
    have e5 : gw 2 = gg 5 := by
      have := he 5 (by omega)
      rw [show (nw - 7 + 5) % 7 = 2 by omega] at this
      exact this
    have e6 : gw 3 = gg 6 := by
      have := he 6 (by omega)
      rw [show (nw - 7 + 6) % 7 = 3 by omega] at this
      exact this
    simp only [sumN]
    omega
  · have e0 : gw 5 = gg 0 := by
      have := he 0 (by omega)
      rw [show (nw - 7 + 0) % 7 = 5 by omega] at this
      exact this
    have e1 : gw 6 = gg 1 := by
      have := he 1 (by omega)
      rw [show (nw - 7 + 1) % 7 = 6 by omega] at this
      exact this
    have e2 : gw 0 = gg 2 := by
      have := he 2 (by omega)
      rw [show (nw - 7 + 2) % 7 = 0 by omega] at this
      exact this
    have e3 : gw 1 = gg 3 := by
      have := he 3 (by omega)
      rw [show (nw - 7 + 3) % 7 = 1 by omega] at this
      exact this
    have e4 : gw 2 = gg 4 := by
      have := he 4 (by omega)
      rw [show (nw - 7 + 4) % 7 = 2 by omega] at this
      exact this
    have e5 : gw 3 = gg 5 := by
      have := he 5 (by omega)
      rw [show (nw - 7 + 5) % 7 = 3 by omega] at this
      exact this
    have e6 : gw 4 = gg 6 := by
      have := he 6 (by omega)
      rw [show (nw - 7 + 6) % 7 = 4 by omega] at this
      exact this
    simp only [sumN]
    omega
  · have e0 : gw 6 = gg 0 := by
      have := he 0 (by omega)
      rw [show (nw - 7 + 0) % 7 = 6 by omega] at this
      exact this
    have e1 : gw 0 = gg 1 := by
      have := he 1 (by omega)
      rw [show (nw - 7 + 1) % 7 = 0 by omega] at this
      exact this
    have e2 : gw 1 = gg 2 := by
      have := he 2 (by omega)
      rw [show (nw - 7 + 2) % 7 = 1 by omega] at this
      exact this
    have e3 : gw 2 = gg 3 := by
      have := he 3 (by omega)
      rw [show (nw - 7 + 3) % 7 = 2 by omega] at this
      exact this
    have e4 : gw 3 = gg 4 := by
      have := he 4 (by omega)
      rw [show (nw - 7 + 4) % 7 = 3 by omega] at this
      exact this
    have e5 : gw 4 = gg 5 := by
      have := he 5 (by omega)
      rw [show (nw - 7 + 5) % 7 = 4 by omega] at this
      exact this
    have e6 : gw 5 = gg 6 := by
      have := he 6 (by omega)
      rw [show (nw - 7 + 6) % 7 = 5 by omega] at this
      exact this
    simp only [sumN]
    omega
theorem week_small {gw gg : Nat → Nat} {nw : Nat} (h7 : nw < 7) (hl : ∀ i, i < nw → gw i = gg i) (hz : ∀ i, nw ≤ i → i < 7 → gw i = 0) : sumN gw 7 = sumN gg nw := by
  rcases (show nw = 0 ∨ nw = 1 ∨ nw = 2 ∨ nw = 3 ∨ nw = 4 ∨ nw = 5 ∨ nw = 6 by omega) with rfl | rfl | rfl | rfl | rfl | rfl | rfl
  · have e0 : gw 0 = 0 := hz 0 (by omega) (by omega)
    have e1 : gw 1 = 0 := hz 1 (by omega) (by omega)
    have e2 : gw 2 = 0 := hz 2 (by omega) (by omega)
    have e3 : gw 3 = 0 := hz 3 (by omega) (by omega)
    have e4 : gw 4 = 0 := hz 4 (by omega) (by omega)
    have e5 : gw 5 = 0 := hz 5 (by omega) (by omega)
    have e6 : gw 6 = 0 := hz 6 (by omega) (by omega)
    simp only [sumN]
    omega
  · have e0 : gw 0 = gg 0 := hl 0 (by omega)
    have e1 : gw 1 = 0 := hz 1 (by omega) (by omega)
    have e2 : gw 2 = 0 := hz 2 (by omega) (by omega)
    have e3 : gw 3 = 0 := hz 3 (by omega) (by omega)
    have e4 : gw 4 = 0 := hz 4 (by omega) (by omega)
    have e5 : gw 5 = 0 := hz 5 (by omega) (by omega)
    have e6 : gw 6 = 0 := hz 6 (by omega) (by omega)
    simp only [sumN]
    omega
  · have e0 : gw 0 = gg 0 := hl 0 (by omega)
    have e1 : gw 1 = gg 1 := hl 1 (by omega)
    have e2 : gw 2 = 0 := hz 2 (by omega) (by omega)
    have e3 : gw 3 = 0 := hz 3 (by omega) (by omega)
    have e4 : gw 4 = 0 := hz 4 (by omega) (by omega)
    have e5 : gw 5 = 0 := hz 5 (by omega) (by omega)
    have e6 : gw 6 = 0 := hz 6 (by omega) (by omega)
    simp only [sumN]
    omega
  · have e0 : gw 0 = gg 0 := hl 0 (by omega)
    have e1 : gw 1 = gg 1 := hl 1 (by omega)
    have e2 : gw 2 = gg 2 := hl 2 (by omega)
    have e3 : gw 3 = 0 := hz 3 (by omega) (by omega)
    have e4 : gw 4 = 0 := hz 4 (by omega) (by omega)
    have e5 : gw 5 = 0 := hz 5 (by omega) (by omega)
    have e6 : gw 6 = 0 := hz 6 (by omega) (by omega)
    simp only [sumN]
    omega
  · have e0 : gw 0 = gg 0 := hl 0 (by omega)
    have e1 : gw 1 = gg 1 := hl 1 (by omega)
    have e2 : gw 2 = gg 2 := hl 2 (by omega)
    have e3 : gw 3 = gg 3 := hl 3 (by omega)
    have e4 : gw 4 = 0 := hz 4 (by omega) (by omega)
    have e5 : gw 5 = 0 := hz 5 (by omega) (by omega)
    have e6 : gw 6 = 0 := hz 6 (by omega) (by omega)
    simp only [sumN]
    omega
  · have e0 : gw 0 = gg 0 := hl 0 (by omega)
    have e1 : gw 1 = gg 1 := hl 1 (by omega)
    have e2 : gw 2 = gg 2 := hl 2 (by omega)
    have e3 : gw 3 = gg 3 := hl 3 (by omega)
    have e4 : gw 4 = gg 4 := hl 4 (by omega)
    have e5 : gw 5 = 0 := hz 5 (by omega) (by omega)
    have e6 : gw 6 = 0 := hz 6 (by omega) (by omega)
    simp only [sumN]
    omega
  · have e0 : gw 0 = gg 0 := hl 0 (by omega)
    have e1 : gw 1 = gg 1 := hl 1 (by omega)
    have e2 : gw 2 = gg 2 := hl 2 (by omega)
    have e3 : gw 3 = gg 3 := hl 3 (by omega)
    have e4 : gw 4 = gg 4 := hl 4 (by omega)
    have e5 : gw 5 = gg 5 := hl 5 (by omega)
    have e6 : gw 6 = 0 := hz 6 (by omega) (by omega)
    simp only [sumN]
    omega
theorem mmin7' {nw : Nat} (h : nw < 400) : mmin 7 (nI nw) = nI (min nw 7) := by
  unfold mmin
  by_cases q : nw < 7
  · rw [if_pos (show nI nw < 7 from nI_lt (b := 7) q (by omega)), Nat.min_eq_left (by omega)]
  · rw [if_neg (show ¬ nI nw < 7 from fun z => q (nlt_t (a := nw) (b := 7) (by omega) (by omega) z)), Nat.min_eq_right (by omega)]
    rfl
theorem share_eq {b : Bool} {h nv ns nt nb nd nw : Nat} {t : tS} {s : oT} {M M' : gM} (r : Rl b h nv ns nt nb nd nw t s M M') {i : Nat} (hi : i < nv) : fShare M (2 * i + 42) = mShare M' i nw := by
  have hi2 : i < 12 := by have := r.1.1; omega
  obtain ⟨r1, r2, r3, r4, r5, r6, -⟩ := r
  obtain ⟨p, be, tk, x, h1, -, -, -, hp1, hp2, -⟩ := r4.1 i hi
  have hnw := r1.2.2.2.2.2
  obtain ⟨w1, w2, w3⟩ := r6 i hi2
  have hg : ∀ d, d ≤ nw → M'.1 113 (400 * i + d) = nI (M'.1 113 (400 * i + d)).toNatClampNeg ∧ (M'.1 113 (400 * i + d)).toNatClampNeg ≤ 100000 := fun d hd => by
    obtain ⟨g, g1, g2, -⟩ := r4.2.2.1 i d hi2 (Or.inl hd)
    rw [g1, nI_clamp (by omega)]
    exact ⟨rfl, g2⟩
  have ew : M.1 (2 * i + 42) 0 * mmin 7 (M.1 0 12) = nI (p * min nw 7) := by
    rw [(r5 i hi2).1, h1, r2.2.2.2.2.2, mmin7' hnw, pk_mul]
  have hm7 : min nw 7 ≤ 7 := Nat.min_le_right _ _
  have hpm : p * min nw 7 ≤ 2000 * 7 := Nat.mul_le_mul hp2 hm7
  unfold fShare mShare
  rw [ew]
  by_cases h0 : nw = 0
  · subst h0
    rw [if_pos (by rw [Nat.zero_min, Nat.mul_zero]; exact Int32.le_refl _), if_pos rfl]
  · have hmp : 1 ≤ min nw 7 := by omega
    have hpos : 1 ≤ p * min nw 7 := Nat.mul_le_mul hp1 hmp
    rw [if_neg (fun z => by have := (nI_le0 (by omega)).mp z; omega), if_neg h0]
    have hW : ∀ j, j < 7 → M.1 (2 * i + 43) j = nI (M.1 (2 * i + 43) j).toNatClampNeg := fun j hj => by
      by_cases q : nw ≤ j
      · rw [w3 j q hj]; rfl
      · by_cases q7 : nw < 7
        · have := w2 (j + 1) (by omega) (by omega) (by omega)
          rw [show (j + 1 - 1) % 7 = j by omega] at this
          rw [this]; exact (hg _ (by omega)).1
        · have hd : ∃ d, 1 ≤ d ∧ d ≤ nw ∧ nw < d + 7 ∧ (d - 1) % 7 = j := by
            refine ⟨nw - (nw + 6 - j) % 7, ?_, ?_, ?_, ?_⟩ <;> omega
          obtain ⟨d, d1, d2, d3, d4⟩ := hd
          have := w2 d d1 d2 d3
          rw [d4] at this
          rw [this]; exact (hg _ d2).1
    have eS : sumN (fun j => (M.1 (2 * i + 43) j).toNatClampNeg) 7 = sumN (fun j => (M'.1 113 (400 * i + ((nw + 1 - min nw 7) + j))).toNatClampNeg) (min nw 7) := by
      by_cases q7 : nw < 7
      · rw [Nat.min_eq_left (by omega)]
        refine week_small q7 (fun j hj => ?_) (fun j h1 h2 => ?_)
        · have := w2 (j + 1) (by omega) (by omega) (by omega)
          rw [show (j + 1 - 1) % 7 = j by omega] at this
          show (M.1 (2 * i + 43) j).toNatClampNeg = (M'.1 113 (400 * i + ((nw + 1 - nw) + j))).toNatClampNeg
          rw [this, show nw + 1 - nw + j = j + 1 by omega]
        · show (M.1 (2 * i + 43) j).toNatClampNeg = 0
          rw [w3 j h1 h2]; rfl
      · rw [Nat.min_eq_right (by omega)]
        refine week_big (nw := nw) (by omega) (fun j hj => ?_)
        have := w2 (nw - 6 + j) (by omega) (by omega) (by omega)
        rw [show nw - 6 + j - 1 = nw - 7 + j by omega] at this
        show (M.1 (2 * i + 43) ((nw - 7 + j) % 7)).toNatClampNeg = (M'.1 113 (400 * i + ((nw + 1 - 7) + j))).toNatClampNeg
        rw [this, show nw + 1 - 7 + j = nw - 6 + j by omega]
    have hle : sumN (fun j => (M'.1 113 (400 * i + ((nw + 1 - min nw 7) + j))).toNatClampNeg) (min nw 7) ≤ min nw 7 * 100000 := sumN_le _ (fun j hj => (hg _ (by omega)).2)
    have hle2 : min nw 7 * 100000 ≤ 700000 := by omega
    show sumI (M.1 (2 * i + 43)) 7 * 100 / _ = _
    rw [sumI_N 7 hW, sumL_N (min nw 7) (fun j hj => ⟨(hg _ (by omega)).1, by have := (hg (nw + 1 - min nw 7 + j) (by omega)).2; omega⟩), eS, h1, lI_of (by omega), lI_of (by omega), lI_mul, show (100 : Int32) = nI 100 from rfl, show (100 : Int64) = lI 100 from rfl, pk_mul, lI_mul, nI_div (by omega) (by omega), lI_div (by omega) (by omega), lI_32]
    refine Nat.lt_of_le_of_lt (Nat.div_le_self _ _) ?_
    omega

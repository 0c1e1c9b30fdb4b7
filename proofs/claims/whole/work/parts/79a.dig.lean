/-! plans by number -/
theorem sg_Q {nt c m i : Nat} (h : i < c) : m / (nt + 1) ^ (c - (i + 1)) = m / (nt + 1) ^ (c - i) * (nt + 1) + sg nt c m i := by
  rw [← sg_div h]
  unfold sg
  rw [show c - 1 - i = c - (i + 1) by omega]
  rw [Nat.mul_comm]
  exact (Nat.div_add_mod _ _).symm
theorem sg_pre {nt c m m' : Nat} (h1 : m < (nt + 1) ^ c) (h2 : m' < (nt + 1) ^ c) : ∀ i, i ≤ c → (∀ j, j < i → sg nt c m j = sg nt c m' j) → m / (nt + 1) ^ (c - i) = m' / (nt + 1) ^ (c - i) := by
  intro i
  induction i with
  | zero => intro _ _; rw [Nat.sub_zero, Nat.div_eq_of_lt h1, Nat.div_eq_of_lt h2]
  | succ i ih =>
    intro hi he
    rw [sg_Q (by omega), sg_Q (by omega), ih (by omega) (fun j hj => he j (by omega)), he i (by omega)]
theorem sg_inj {nt c m m' : Nat} (h1 : m < (nt + 1) ^ c) (h2 : m' < (nt + 1) ^ c) (he : ∀ j, j < c → sg nt c m j = sg nt c m' j) : m = m' := by
  have := sg_pre h1 h2 c (Nat.le_refl c) he
  rw [Nat.sub_self, Nat.pow_zero, Nat.div_one, Nat.div_one] at this
  exact this
theorem sg_less {nt c m m' i : Nat} (h1 : m < (nt + 1) ^ c) (h2 : m' < (nt + 1) ^ c) (hi : i < c) (he : ∀ j, j < i → sg nt c m j = sg nt c m' j) (hl : sg nt c m i < sg nt c m' i) : m < m' := by
  have e := sg_pre h1 h2 i (by omega) he
  have q : m / (nt + 1) ^ (c - (i + 1)) < m' / (nt + 1) ^ (c - (i + 1)) := by
    rw [sg_Q hi, sg_Q hi, e]
    omega
  rcases Nat.lt_or_ge m m' with g | g
  · exact g
  · have := Nat.div_le_div_right (c := (nt + 1) ^ (c - (i + 1))) g
    omega
/-- the number of a plan -/
def ix (b : Nat) (se : Nat → Nat) : Nat → Nat
  | 0 => 0
  | i + 1 => ix b se i * b + se i
theorem ix_lt {b : Nat} {se : Nat → Nat} (h : ∀ j, se j < b) : ∀ c, ix b se c < b ^ c
  | 0 => Nat.one_pos
  | c + 1 => by
    have h1 := ix_lt h c
    have h2 := h c
    rw [Nat.pow_succ]
    unfold ix
    have h3 : (ix b se c + 1) * b ≤ b ^ c * b := Nat.mul_le_mul_right b h1
    rw [Nat.add_mul, Nat.one_mul] at h3
    omega
theorem ix_div {b : Nat} {se : Nat → Nat} (h : ∀ j, se j < b) (i : Nat) : ∀ r, ix b se (i + r) / b ^ r = ix b se i
  | 0 => by rw [Nat.pow_zero, Nat.div_one]; rfl
  | r + 1 => by
    have hb : 0 < b := Nat.lt_of_le_of_lt (Nat.zero_le _) (h 0)
    rw [Nat.pow_succ', ← Nat.div_div_eq_div_mul]
    show (ix b se (i + r) * b + se (i + r)) / b / b ^ r = _
    rw [Nat.mul_comm, Nat.mul_add_div hb, Nat.div_eq_of_lt (h _), Nat.add_zero]
    exact ix_div h i r
theorem ix_sg {nt c : Nat} {se : Nat → Nat} (h : ∀ j, se j ≤ nt) {k : Nat} (hk : k < c) : sg nt c (ix (nt + 1) se c) k = se k := by
  have h2 : ∀ j, se j < nt + 1 := fun j => Nat.lt_succ_of_le (h j)
  unfold sg
  have := ix_div h2 (k + 1) (c - 1 - k)
  rw [show k + 1 + (c - 1 - k) = c by omega] at this
  rw [this]
  show (ix (nt + 1) se k * (nt + 1) + se k) % (nt + 1) = _
  rw [Nat.mul_comm, Nat.mul_add_mod, Nat.mod_eq_of_lt (h2 k)]
/-- the first best -/
theorem bst_first {D Ms : Nat → Int32} {se : Nat → Nat → Nat} {z : Int32 × (Nat → Int32)} {N : Nat} {f : Nat → Option (Nat × Nat)} (hf : ∀ m, m < N → (f m = none ∧ D m < 0) ∨ ∃ x y, f m = some (x, y) ∧ D m = nI x ∧ Ms m = nI y ∧ x < 1000000 ∧ y < 1000000) : ∀ n, n ≤ N → (mBst D Ms se z n = (-1, z) ∧ ∀ m, m < n → f m = none) ∨ ∃ m x y, m < n ∧ f m = some (x, y) ∧ x < 1000000 ∧ y < 1000000 ∧ mBst D Ms se z n = (nI x, nI y, fun k => nI (se m k)) ∧ ∀ m' v, m' < n → f m' = some v → ¬ bt v (x, y) ∧ (m' < m → bt (x, y) v) := by
  intro n
  induction n with
  | zero => intro _; exact Or.inl ⟨rfl, fun m hm => absurd hm (Nat.not_lt_zero m)⟩
  | succ n ih =>
    intro hn
    rcases hf n (by omega) with ⟨f1, f2⟩ | ⟨x, y, f1, f2, f3, f4, f5⟩
    · rw [bst_n (fun q => q.1 f2)]
      rcases ih (by omega) with ⟨g1, g2⟩ | ⟨m, x, y, g1, g2, g3, g4, g5, g6⟩
      · refine Or.inl ⟨g1, fun m hm => ?_⟩
        by_cases e : m = n
        · rw [e]; exact f1
        · exact g2 m (by omega)
      · refine Or.inr ⟨m, x, y, by omega, g2, g3, g4, g5, fun m' v h1 h2 => ?_⟩
        by_cases e : m' = n
        · rw [e, f1] at h2; cases h2
        · exact g6 m' v (by omega) h2
    · have hD : ¬ D n < 0 := by rw [f2]; exact nI_pos (by omega)
      rcases ih (by omega) with ⟨g1, g2⟩ | ⟨m, x', y', g1, g2, g3, g4, g5, g6⟩
      · rw [bst_y ⟨hD, Or.inl (by rw [g1]; exact (by decide : (-1 : Int32) < 0))⟩]
        refine Or.inr ⟨n, x, y, by omega, f1, f4, f5, by rw [f2, f3], fun m' v h1 h2 => ?_⟩
        by_cases e : m' = n
        · rw [e, f1] at h2
          cases h2
          exact ⟨bt_irr, fun z => by omega⟩
        · rw [g2 m' (by omega)] at h2; cases h2
      · by_cases hb : bt (x, y) (x', y')
        · have hc : ¬ D n < 0 ∧ ((mBst D Ms se z n).1 < 0 ∨ D n < (mBst D Ms se z n).1 ∨ (D n = (mBst D Ms se z n).1 ∧ Ms n < (mBst D Ms se z n).2.1)) := by
            refine ⟨hD, Or.inr ?_⟩
            rw [g5, f2, f3]
            rcases hb with h | ⟨h1, h2⟩
            · exact Or.inl (nI_lt h (by have : x' < 1000000 := g3; omega))
            · refine Or.inr ⟨by show nI x = nI x'; rw [show x = x' from h1], nI_lt h2 (by have : y' < 1000000 := g4; omega)⟩
          rw [bst_y hc]
          refine Or.inr ⟨n, x, y, by omega, f1, f4, f5, by rw [f2, f3], fun m' v h1 h2 => ?_⟩
          by_cases e : m' = n
          · rw [e, f1] at h2
            cases h2
            exact ⟨bt_irr, fun z => by omega⟩
          · have := (g6 m' v (by omega) h2).1
            exact ⟨fun z => this (bt_trans z hb), fun _ => bt_le hb this⟩
        · have hc : ¬ (¬ D n < 0 ∧ ((mBst D Ms se z n).1 < 0 ∨ D n < (mBst D Ms se z n).1 ∨ (D n = (mBst D Ms se z n).1 ∧ Ms n < (mBst D Ms se z n).2.1))) := by
            rw [g5, f2, f3]
            rintro ⟨-, q | q | ⟨q1, q2⟩⟩
            · exact absurd q (nI_pos (by omega))
            · exact hb (Or.inl (nlt_t (by omega) (by omega) q))
            · exact hb (Or.inr ⟨neq_t (by omega) (by omega) q1, nlt_t (by omega) (by omega) q2⟩)
          rw [bst_n hc]
          refine Or.inr ⟨m, x', y', by omega, g2, g3, g4, g5, fun m' v h1 h2 => ?_⟩
          by_cases e : m' = n
          · rw [e, f1] at h2
            cases h2
            exact ⟨hb, fun z => by omega⟩
          · exact g6 m' v (by omega) h2
theorem sub_neg {a b : Nat} (ha : a < 1000000) (hb : b < 1000000) : (nI a - nI b < 0) ↔ a < b := by
  constructor
  · intro h
    rcases Nat.lt_or_ge a b with q | q
    · exact q
    · rw [pk_sub q] at h
      exact absurd h (nI_pos (by omega))
  · intro h
    have e : nI a - nI b = -(nI (b - a)) := by
      rw [← pk_sub (Nat.le_of_lt h), Int32.neg_sub]
    rw [e, Int32.lt_iff_toInt_lt, Int32.toInt_neg, show (nI (b - a)).toInt = ((b - a : Nat) : Int) from Int32.toInt_ofNat_of_lt (by omega), Int.bmod_eq_of_le (by omega) (by omega)]
    show -((b - a : Nat) : Int) < 0
    omega
section
variable {tr : Nat → Nat → Nat} {hd rm lk sp : Nat → Nat} {T n : Nat}
/-- the model's memory, in numbers -/
def mNum (M : gM) (tr : Nat → Nat → Nat) (hd rm lk sp wv : Nat → Nat) (T n : Nat) : Prop :=
  (∀ k t, k < n → t < T → 2 * M.1 125 (12 * sp t + wv k) = nI (tr k t) ∧ tr k t ≤ 400) ∧ (∀ k, k < n → ∃ x tk w, M.1 108 (wv k) = nI x ∧ M.1 107 (wv k) = nI tk ∧ M.1 127 k = nI w ∧ x ≤ tk ∧ x < w ∧ tk < 1000000 ∧ w < 1000000 ∧ lk k = w - x ∧ rm k = tk - x) ∧ ∀ t, t < T → M.1 120 t = nI (hd t) ∧ hd t < 1000000
theorem mtry_N {M : gM} {wv : Nat → Nat} {se : Nat → Nat} (hs : mNum M tr hd rm lk sp wv T n) : ∀ r k d m (mlN plN : Nat → Nat) (ml pl : Nat → Int32), k + r = n → d + r ≤ 20 → m + 400 * r ≤ 10000 → (∀ t, t < T → ml t = nI (mlN t) ∧ mlN t < 1000000) → (∀ t, t < T → pl (sp t) = nI (plN (sp t)) ∧ plN (sp t) < 1000000) → sumI (fun k => if se k < T then 2 * M.1 125 (12 * sp (se k) + wv k) else 0) k = nI m →
    (pv tr hd rm lk sp T se r k mlN plN d m = none ∧ mtry M wv sp T se r k ml pl (nI d) < 0) ∨ ∃ x y, pv tr hd rm lk sp T se r k mlN plN d m = some (x, y) ∧ mtry M wv sp T se r k ml pl (nI d) = nI x ∧ sumI (fun k => if se k < T then 2 * M.1 125 (12 * sp (se k) + wv k) else 0) n = nI y ∧ x ≤ 20 ∧ y ≤ 10000 := by
  intro r
  induction r with
  | zero =>
    intro k d m mlN plN ml pl hk hd1 hm1 hml hpl hsu
    obtain rfl : k = n := by omega
    exact Or.inr ⟨d, m, rfl, rfl, hsu, by omega, by omega⟩
  | succ r ih =>
    intro k d m mlN plN ml pl hk hd1 hm1 hml hpl hsu
    have hkn : k < n := by omega
    obtain ⟨x, tk, w, e1, e2, e3, q1, q2, q3, q4, q5, q6⟩ := hs.2.1 k hkn
    unfold mtry pv
    by_cases hq : se k < T
    · obtain ⟨t1, t2⟩ := hs.1 k (se k) hkn hq
      obtain ⟨h1, h2⟩ := hs.2.2 (se k) hq
      obtain ⟨m1, m2⟩ := hml (se k) hq
      obtain ⟨p1, p2⟩ := hpl (se k) hq
      have hl : mmin (mmin (M.1 107 (wv k) - M.1 108 (wv k)) (pl (sp (se k)))) (M.1 120 (se k)) = nI (ld hd rm sp plN (se k) k) := by
        rw [e1, e2, pk_sub q1, p1, h1, mmin_N (by omega) (by omega), mmin_N (by omega) (by omega)]
        unfold ld
        rw [q6]
        congr 1
        omega
      have hl2 : ld hd rm sp plN (se k) k ≤ plN (sp (se k)) := by unfold ld; omega
      rw [if_pos hq, if_pos hq, t1, hl, m1, p1]
      by_cases hb : mlN (se k) < tr k (se k)
      · rw [if_pos hb, if_pos ((sub_neg m2 (by omega)).mpr hb)]
        exact Or.inl ⟨rfl, by decide⟩
      · rw [if_neg hb, if_neg (fun z => hb ((sub_neg m2 (by omega)).mp z)), pk_sub (by omega), pk_sub hl2, e1, e3, nI_add]
        have ed : nI d + (if nI (x + ld hd rm sp plN (se k) k) < nI w then 1 else 0) = nI (d + if ld hd rm sp plN (se k) k < lk k then 1 else 0) := by
          by_cases z : ld hd rm sp plN (se k) k < lk k
          · rw [if_pos z, if_pos (nI_lt (by omega) (by omega)), nI_1]
          · rw [if_neg z, if_neg (fun y => z (by have := nlt_t (by omega) (by omega) y; omega)), Int32.add_zero, Nat.add_zero]
        rw [ed]
        refine ih (k + 1) _ _ _ _ _ _ (by omega) (by split <;> omega) (by omega) (fun t ht => ?_) (fun t ht => ?_) ?_
        · by_cases e : t = se k
          · rw [e, updI_s, updN_s]; exact ⟨rfl, by omega⟩
          · rw [updI_n e, updN_n e]; exact hml t ht
        · by_cases e : sp t = sp (se k)
          · rw [e, updI_s, updN_s]; exact ⟨rfl, by omega⟩
          · rw [updI_n e, updN_n e]; exact hpl t ht
        · show sumI _ k + (if se k < T then _ else _) = _
          rw [hsu, if_pos hq, t1, nI_add]
    · rw [if_neg hq, if_neg hq, e1, e3, if_pos (nI_lt q2 (by omega)), nI_1]
      refine ih (k + 1) _ _ _ _ _ _ (by omega) (by omega) (by omega) hml hpl ?_
      show sumI _ k + (if se k < T then _ else _) = _
      rw [hsu, if_neg hq, Int32.add_zero]
/-- some plan that serves is as good, and better if this one does not -/
theorem srv_ex (htr : ∀ k t, 1 ≤ tr k t) {r k : Nat} {ml pl : Nat → Nat} {d m : Nat} : ∀ x y se, (∀ j, se j ≤ T) → pv tr hd rm lk sp T se r k ml pl d m = some (x, y) → srv tr hd rm lk sp T se r k ml pl ∨ ∃ se2 v2, okP tr hd rm lk sp T r k ml pl se2 ∧ pv tr hd rm lk sp T se2 r k ml pl d m = some v2 ∧ bt v2 (x, y) := by
  intro x
  induction x using Nat.strongRecOn with
  | ind x ihx =>
    intro y
    induction y using Nat.strongRecOn with
    | ind y ihy =>
      intro se h1 h2
      by_cases hs : srv tr hd rm lk sp T se r k ml pl
      · exact Or.inl hs
      · obtain ⟨se', ⟨x', y'⟩, g1, g2, g3⟩ := pv_srv htr r k ml pl d m _ h2 hs
        have g4 : ∀ j, se' j ≤ T := fun j => by
          rcases g3 j with e | e
          · rw [e]; exact h1 j
          · rw [e]; exact Nat.le_refl T
        have key : srv tr hd rm lk sp T se' r k ml pl ∨ ∃ se2 v2, okP tr hd rm lk sp T r k ml pl se2 ∧ pv tr hd rm lk sp T se2 r k ml pl d m = some v2 ∧ bt v2 (x', y') := by
          rcases g2 with z | ⟨z1, z2⟩
          · exact ihx x' z y' se' g4 g1
          · obtain rfl : x' = x := z1
            exact ihy y' z2 se' g4 g1
        rcases key with z | ⟨se2, v2, z1, z2, z3⟩
        · exact Or.inr ⟨se', (x', y'), ⟨g4, z⟩, g1, g2⟩
        · exact Or.inr ⟨se2, v2, z1, z2, bt_trans z3 g2⟩
end

/-! plans, in numbers: places 0 .. n - 1, tankers 0 .. T - 1; the digit T: none -/
def updN (f : Nat → Nat) (k v : Nat) : Nat → Nat := fun j => if j = k then v else f j
theorem updN_s {f : Nat → Nat} {k v : Nat} : updN f k v k = v := if_pos rfl
theorem updN_n {f : Nat → Nat} {k v j : Nat} (h : j ≠ k) : updN f k v j = f j := if_neg h
section
variable (tr : Nat → Nat → Nat) (hd rm lk sp : Nat → Nat) (T : Nat)
def ld (pl : Nat → Nat) (t k : Nat) : Nat := min (min (hd t) (pl (sp t))) (rm k)
/-- a plan's dry and miles from the place k on, r places; none: too many miles -/
def pv (se : Nat → Nat) : Nat → Nat → (Nat → Nat) → (Nat → Nat) → Nat → Nat → Option (Nat × Nat)
  | 0, _, _, _, d, m => some (d, m)
  | r + 1, k, ml, pl, d, m => if se k < T then (if ml (se k) < tr k (se k) then none else pv se r (k + 1) (updN ml (se k) (ml (se k) - tr k (se k))) (updN pl (sp (se k)) (pl (sp (se k)) - ld hd rm sp pl (se k) k)) (d + if ld hd rm sp pl (se k) k < lk k then 1 else 0) (m + tr k (se k))) else pv se r (k + 1) ml pl (d + 1) m
/-- every trip serves -/
def srv (se : Nat → Nat) : Nat → Nat → (Nat → Nat) → (Nat → Nat) → Prop
  | 0, _, _, _ => True
  | r + 1, k, ml, pl => if se k < T then tr k (se k) ≤ ml (se k) ∧ lk k ≤ ld hd rm sp pl (se k) k ∧ srv se r (k + 1) (updN ml (se k) (ml (se k) - tr k (se k))) (updN pl (sp (se k)) (pl (sp (se k)) - ld hd rm sp pl (se k) k)) else srv se r (k + 1) ml pl
def bt (a b : Nat × Nat) : Prop := a.1 < b.1 ∨ (a.1 = b.1 ∧ a.2 < b.2)
end
section
variable {tr : Nat → Nat → Nat} {hd rm lk sp : Nat → Nat} {T : Nat}
theorem bt_trans {a b c : Nat × Nat} (h : bt a b) (h' : bt b c) : bt a c := by unfold bt at *; omega
theorem bt_irr {a : Nat × Nat} : ¬ bt a a := by unfold bt; omega
theorem bt_tot {a b : Nat × Nat} (h : ¬ bt a b) (h' : ¬ bt b a) : a = b := by
  unfold bt at *
  exact Prod.ext (by omega) (by omega)
theorem bt_le {a b c : Nat × Nat} (h : bt a b) (h' : ¬ bt c b) : bt a c := by unfold bt at *; omega
theorem bt_le' {a b c : Nat × Nat} (h : ¬ bt a b) (h' : ¬ bt b c) : ¬ bt a c := by unfold bt at *; omega
theorem pv_c {se se' : Nat → Nat} : ∀ r k ml pl d m, (∀ j, k ≤ j → j < k + r → se' j = se j) → pv tr hd rm lk sp T se' r k ml pl d m = pv tr hd rm lk sp T se r k ml pl d m := by
  intro r
  induction r with
  | zero => intro k ml pl d m _; rfl
  | succ r ih =>
    intro k ml pl d m e
    unfold pv
    rw [e k (Nat.le_refl k) (by omega), ih _ _ _ _ _ (fun j h1 h2 => e j (by omega) (by omega)), ih _ _ _ _ _ (fun j h1 h2 => e j (by omega) (by omega))]
theorem srv_c {se se' : Nat → Nat} : ∀ r k ml pl, (∀ j, k ≤ j → j < k + r → se' j = se j) → (srv tr hd rm lk sp T se' r k ml pl ↔ srv tr hd rm lk sp T se r k ml pl) := by
  intro r
  induction r with
  | zero => intro k ml pl _; exact Iff.rfl
  | succ r ih =>
    intro k ml pl e
    unfold srv
    rw [e k (Nat.le_refl k) (by omega), ih _ _ _ (fun j h1 h2 => e j (by omega) (by omega)), ih _ _ _ (fun j h1 h2 => e j (by omega) (by omega))]
/-- a plan that serves can be driven -/
theorem srv_pv {se : Nat → Nat} : ∀ r k ml pl d m, srv tr hd rm lk sp T se r k ml pl → ∃ v, pv tr hd rm lk sp T se r k ml pl d m = some v := by
  intro r
  induction r with
  | zero => intro k ml pl d m _; exact ⟨_, rfl⟩
  | succ r ih =>
    intro k ml pl d m h
    unfold srv at h
    unfold pv
    by_cases q : se k < T
    · rw [if_pos q] at h ⊢
      rw [if_neg (by omega)]
      exact ih _ _ _ _ _ h.2.2
    · rw [if_neg q] at h ⊢
      exact ih _ _ _ _ _ h
/-- with more miles and water it is no worse -/
theorem pv_mono {se : Nat → Nat} : ∀ r k ml pl d m ml' pl' d' m' x y, (∀ t, ml t ≤ ml' t) → (∀ s, pl s ≤ pl' s) → d' ≤ d → pv tr hd rm lk sp T se r k ml pl d m = some (x, y) → ∃ x' y', pv tr hd rm lk sp T se r k ml' pl' d' m' = some (x', y') ∧ x' ≤ x ∧ y' + m = y + m' := by
  intro r
  induction r with
  | zero =>
    intro k ml pl d m ml' pl' d' m' x y h1 h2 h3 h
    cases h
    exact ⟨d', m', rfl, h3, by omega⟩
  | succ r ih =>
    intro k ml pl d m ml' pl' d' m' x y h1 h2 h3 h
    unfold pv at h ⊢
    by_cases q : se k < T
    · rw [if_pos q] at h ⊢
      by_cases q2 : ml (se k) < tr k (se k)
      · rw [if_pos q2] at h; cases h
      · rw [if_neg q2] at h
        have g1 := h1 (se k)
        have g2 := h2 (sp (se k))
        rw [if_neg (by omega)]
        have hl : ld hd rm sp pl (se k) k ≤ ld hd rm sp pl' (se k) k := by unfold ld; omega
        have hl2 : pl (sp (se k)) - ld hd rm sp pl (se k) k ≤ pl' (sp (se k)) - ld hd rm sp pl' (se k) k := by unfold ld; omega
        obtain ⟨x', y', e1, e2, e3⟩ := ih (k + 1) _ _ _ _ (updN ml' (se k) (ml' (se k) - tr k (se k))) (updN pl' (sp (se k)) (pl' (sp (se k)) - ld hd rm sp pl' (se k) k)) (d' + if ld hd rm sp pl' (se k) k < lk k then 1 else 0) (m' + tr k (se k)) x y (fun t => by
          by_cases e : t = se k
          · rw [e, updN_s, updN_s]; omega
          · rw [updN_n e, updN_n e]; exact h1 t) (fun s => by
          by_cases e : s = sp (se k)
          · rw [e, updN_s, updN_s]; exact hl2
          · rw [updN_n e, updN_n e]; exact h2 s) (by split <;> split <;> omega) h
        exact ⟨x', y', e1, e2, by omega⟩
    · rw [if_neg q] at h ⊢
      exact ih _ _ _ _ _ _ _ _ _ _ _ h1 h2 (by omega) h
/-- a plan with a trip that does not serve is no best one -/
theorem pv_srv (htr : ∀ k t, 1 ≤ tr k t) {se : Nat → Nat} : ∀ r k ml pl d m v, pv tr hd rm lk sp T se r k ml pl d m = some v → ¬ srv tr hd rm lk sp T se r k ml pl → ∃ se' v', pv tr hd rm lk sp T se' r k ml pl d m = some v' ∧ bt v' v ∧ (∀ j, se' j = se j ∨ se' j = T) := by
  intro r
  induction r with
  | zero => intro k ml pl d m v _ h; exact absurd trivial h
  | succ r ih =>
    intro k ml pl d m v h hn
    have h0 := h
    unfold pv at h
    unfold srv at hn
    by_cases q : se k < T
    · rw [if_pos q] at h hn
      by_cases q2 : ml (se k) < tr k (se k)
      · rw [if_pos q2] at h; cases h
      · rw [if_neg q2] at h
        by_cases q3 : lk k ≤ ld hd rm sp pl (se k) k
        · obtain ⟨se2, v2, e1, e2, e3⟩ := ih _ _ _ _ _ v h (fun z => hn ⟨by omega, q3, z⟩)
          refine ⟨updN se2 k (se k), v2, ?_, e2, fun j => ?_⟩
          · unfold pv
            rw [updN_s, if_pos q, if_neg q2, ← e1]
            exact pv_c _ _ _ _ _ _ (fun j h1 h2 => updN_n (by omega))
          · by_cases e : j = k
            · rw [e, updN_s]; exact Or.inl rfl
            · rw [updN_n e]; exact e3 j
        · rw [if_pos (by omega)] at h
          obtain ⟨x, y⟩ := v
          obtain ⟨x', y', e1, e2, e3⟩ := pv_mono (ml' := ml) (pl' := pl) (d' := d + 1) (m' := m) r (k + 1) _ _ _ _ x y (fun t => by
            by_cases e : t = se k
            · rw [e, updN_s]; omega
            · rw [updN_n e]; exact Nat.le_refl _) (fun s => by
            by_cases e : s = sp (se k)
            · rw [e, updN_s]; omega
            · rw [updN_n e]; exact Nat.le_refl _) (Nat.le_refl _) h
          have ht := htr k (se k)
          refine ⟨updN se k T, (x', y'), ?_, ?_, fun j => ?_⟩
          · unfold pv
            rw [updN_s, if_neg (Nat.lt_irrefl T), ← e1]
            exact pv_c _ _ _ _ _ _ (fun j h1 h2 => updN_n (by omega))
          · unfold bt
            show x' < x ∨ (x' = x ∧ y' < y)
            omega
          · by_cases e : j = k
            · rw [e, updN_s]; exact Or.inr rfl
            · rw [updN_n e]; exact Or.inl rfl
    · rw [if_neg q] at h hn
      obtain ⟨se2, v2, e1, e2, e3⟩ := ih _ _ _ _ _ v h hn
      refine ⟨updN se2 k (se k), v2, ?_, e2, fun j => ?_⟩
      · unfold pv
        rw [updN_s, if_neg q, ← e1]
        exact pv_c _ _ _ _ _ _ (fun j h1 h2 => updN_n (by omega))
      · by_cases e : j = k
        · rw [e, updN_s]; exact Or.inl rfl
        · rw [updN_n e]; exact e3 j
/-- a place that some tanker can serve, with all there is at first -/
def canS (tr : Nat → Nat → Nat) (hd rm lk sp : Nat → Nat) (ml pl : Nat → Nat) (k t : Nat) : Prop := tr k t ≤ ml t ∧ lk k ≤ ld hd rm sp pl t k
/-- lo: places that none can serve; le: the least miles of the others -/
def bndOK (tr : Nat → Nat → Nat) (hd rm lk sp : Nat → Nat) (T n : Nat) (ml pl lo le : Nat → Nat) : Prop := lo n = 0 ∧ le n = 0 ∧ ∀ k, k < n → ((∀ t, t < T → ¬ canS tr hd rm lk sp ml pl k t) ∧ lo k = lo (k + 1) + 1 ∧ le k = le (k + 1)) ∨ (lo k = lo (k + 1) ∧ ∃ w, le k = le (k + 1) + w ∧ ∀ t, t < T → canS tr hd rm lk sp ml pl k t → w ≤ tr k t)
theorem bnd {n : Nat} {ml0 pl0 lo le : Nat → Nat} (hb : bndOK tr hd rm lk sp T n ml0 pl0 lo le) {se : Nat → Nat} : ∀ r k ml pl d m x y, k + r = n → (∀ t, ml t ≤ ml0 t) → (∀ s, pl s ≤ pl0 s) → srv tr hd rm lk sp T se r k ml pl → pv tr hd rm lk sp T se r k ml pl d m = some (x, y) → d + lo k ≤ x ∧ (x = d + lo k → m + le k ≤ y) := by
  intro r
  induction r with
  | zero =>
    intro k ml pl d m x y hk _ _ _ h
    cases h
    obtain rfl : k = n := by omega
    rw [hb.1, hb.2.1]
    exact ⟨by omega, fun _ => by omega⟩
  | succ r ih =>
    intro k ml pl d m x y hk h1 h2 hs h
    unfold srv at hs
    unfold pv at h
    have hbk := hb.2.2 k (by omega)
    by_cases q : se k < T
    · rw [if_pos q] at h hs
      obtain ⟨s1, s2, s3⟩ := hs
      rw [if_neg (by omega), if_neg (by omega)] at h
      have g1 := h1 (se k)
      have g2 := h2 (sp (se k))
      have hc : canS tr hd rm lk sp ml0 pl0 k (se k) := ⟨by omega, Nat.le_trans s2 (by unfold ld; omega)⟩
      obtain ⟨i1, i2⟩ := ih (k + 1) _ _ _ _ x y (by omega) (fun t => by
        by_cases e : t = se k
        · rw [e, updN_s]; omega
        · rw [updN_n e]; exact h1 t) (fun s => by
        by_cases e : s = sp (se k)
        · rw [e, updN_s]; omega
        · rw [updN_n e]; exact h2 s) s3 h
      rcases hbk with ⟨b1, -⟩ | ⟨b1, w, b2, b3⟩
      · exact absurd hc (b1 _ q)
      · have := b3 _ q hc
        rw [b1, b2]
        refine ⟨by omega, fun e => ?_⟩
        have := i2 (by omega)
        omega
    · rw [if_neg q] at h hs
      obtain ⟨i1, i2⟩ := ih (k + 1) _ _ _ _ x y (by omega) h1 h2 hs h
      rcases hbk with ⟨-, b1, b2⟩ | ⟨b1, w, b2, b3⟩
      · rw [b1, b2]
        refine ⟨by omega, fun e => ?_⟩
        have := i2 (by omega)
        omega
      · rw [b1, b2]
        exact ⟨by omega, fun e => by omega⟩
/-- which of two plans comes first -/
def lxl (p n : Nat) (f g : Nat → Nat) : Prop := (∀ j, p ≤ j → j < n → f j = g j) ∨ ∃ i, p ≤ i ∧ i < n ∧ (∀ j, p ≤ j → j < i → f j = g j) ∧ f i < g i
end

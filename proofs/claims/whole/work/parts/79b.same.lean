/-! the class's plan and the model's are one -/
section
variable {tr : Nat → Nat → Nat} {hd rm lk sp wv ml0 pl0 lo le : Nat → Nat} {T n : Nat}
theorem srv_T {r k : Nat} {ml pl : Nat → Nat} : srv tr hd rm lk sp T (fun _ => T) r k ml pl := by
  induction r generalizing k with
  | zero => trivial
  | succ r ih => unfold srv; rw [if_neg (Nat.lt_irrefl T)]; exact ih
theorem pv_T {ml pl : Nat → Nat} : ∀ r k d m, pv tr hd rm lk sp T (fun _ => T) r k ml pl d m = some (d + r, m) := by
  intro r
  induction r with
  | zero => intro k d m; rfl
  | succ r ih =>
    intro k d m
    rw [pv, if_neg (Nat.lt_irrefl T), ih]
    congr 2
    omega
theorem plan_same {M1 M2 M9 : gM} (hT : T ≤ 4) (hn : n ≤ 6) (hs : sM M1 tr hd rm lk T n lo le) (hb : bndOK tr hd rm lk sp T n ml0 pl0 lo le) (hlk : ∀ k, k < n → 1 ≤ lk k) (htr : ∀ k t, 1 ≤ tr k t)
    (hml : ∀ t, t < T → M1.1 27 t = nI (ml0 t) ∧ ml0 t < 1000000) (hpl : ∀ t, t < T → M1.1 24 (sp t) = nI (pl0 (sp t)) ∧ pl0 (sp t) < 1000000) (h15 : M1.1 23 15 = nI n + 1) (h16 : M1.1 23 16 = 0)
    (hm : mNum M2 tr hd rm lk sp wv T n) (hml2 : ∀ t, t < T → M2.1 121 t = nI (ml0 t)) (hpl2 : ∀ t, t < T → M2.1 117 (sp t) = nI (pl0 (sp t))) (hB : bstR M2 M9 wv sp T n ((T + 1) ^ n)) :
    ∃ be : Nat → Nat, (∀ k, be k ≤ T) ∧ (∀ k, k < n → (srch M1 sp T n n 0 0 0 (M1.1 24) (M1.1 27) (getS M1)).2.1 k = dg T (be k)) ∧ (∀ k, k < n → M9.1 129 k = nI (be k)) ∧ (srch M1 sp T n n 0 0 0 (M1.1 24) (M1.1 27) (getS M1)).2.2.1 = M9.1 88 57 ∧ (srch M1 sp T n n 0 0 0 (M1.1 24) (M1.1 27) (getS M1)).2.2.2 = M9.1 88 58 := by
  obtain ⟨D', Mi', hA⟩ := srch_ok hT hs hb hlk n 0 0 0 ml0 pl0 (M1.1 27) (M1.1 24) (getS M1) (n + 1) 0 (by omega) (by omega) (by omega) hml hpl (fun _ => Nat.le_refl _) (fun _ => Nat.le_refl _) (by show M1.1 23 15 = _; rw [h15, nI_1]) (by show M1.1 23 16 = _; rw [h16]; rfl) (by omega) (by omega)
  rw [show nI 0 = (0 : Int32) from rfl] at hA
  generalize srch M1 sp T n n 0 0 0 (M1.1 24) (M1.1 27) (getS M1) = s9 at hA ⊢
  obtain ⟨a1, a2, a3, a4, -, a6, a7⟩ := hA
  have hall : ∀ se x y, (∀ j, se j ≤ T) → pv tr hd rm lk sp T se n 0 ml0 pl0 0 0 = some (x, y) → ¬ bt (x, y) (D', Mi') ∧ ((x, y) = (D', Mi') → srv tr hd rm lk sp T se n 0 ml0 pl0) := by
    intro se x y h1 h2
    rcases srv_ex htr x y se h1 h2 with z | ⟨se2, v2, z1, z2, z3⟩
    · exact ⟨a6 se _ ⟨h1, z⟩ (Nat.lt_succ_of_le (h1 0)) h2, fun _ => z⟩
    · have g := a6 se2 v2 z1 (Nat.lt_succ_of_le (z1.1 0)) z2
      exact ⟨fun z => g (bt_trans z3 z), fun e => absurd (e ▸ z3) g⟩
  have h0 := hall (fun _ => T) (0 + n) 0 (fun _ => Nat.le_refl T) (pv_T n 0 0 0)
  rcases a7 with ⟨e1, e2, -⟩ | ⟨-, se, c1, -, c3, c4, c5⟩
  · exact absurd (show bt (0 + n, 0) (D', Mi') from Or.inl (by show 0 + n < D'; omega)) h0.1
  -- the model's
  have hf : ∀ m, m < (T + 1) ^ n → (pv tr hd rm lk sp T (sg T n m) n 0 ml0 pl0 0 0 = none ∧ bD M2 wv sp T n m < 0) ∨ ∃ x y, pv tr hd rm lk sp T (sg T n m) n 0 ml0 pl0 0 0 = some (x, y) ∧ bD M2 wv sp T n m = nI x ∧ bMs M2 wv sp T n m = nI y ∧ x < 1000000 ∧ y < 1000000 := by
    intro m _
    rcases mtry_N (se := sg T n m) hm n 0 0 0 ml0 pl0 (M2.1 121) (M2.1 117) (by omega) (by omega) (by omega) (fun t ht => ⟨hml2 t ht, (hml t ht).2⟩) (fun t ht => ⟨hpl2 t ht, (hpl t ht).2⟩) rfl with h | ⟨x, y, g1, g2, g3, g4, g5⟩
    · exact Or.inl h
    · exact Or.inr ⟨x, y, g1, g2, g3, by omega, by omega⟩
  have hst : ∀ j, se j < T + 1 := fun j => Nat.lt_succ_of_le (c1.1 j)
  have hix := ix_lt hst n
  have hsg : ∀ k, k < n → sg T n (ix (T + 1) se n) k = se k := fun k hk => ix_sg c1.1 hk
  have hpx : pv tr hd rm lk sp T (sg T n (ix (T + 1) se n)) n 0 ml0 pl0 0 0 = some (D', Mi') := by
    rw [← c3]
    exact pv_c _ _ _ _ _ _ (fun j _ h2 => hsg j (by omega))
  rcases bst_first (se := sg T n) (z := (M2.1 88 58, M2.1 129)) hf ((T + 1) ^ n) (Nat.le_refl _) with ⟨-, g2⟩ | ⟨m, x, y, g1, g2, g3, g4, g5, g6⟩
  · rw [g2 _ hix] at hpx; cases hpx
  have k1 := (g6 _ _ hix hpx).1
  have k2 := (hall (sg T n m) x y (fun j => sg_le _ _ _ _) g2)
  have exy : (x, y) = (D', Mi') := bt_tot k2.1 k1
  have hok : okP tr hd rm lk sp T n 0 ml0 pl0 (sg T n m) := ⟨fun j => sg_le _ _ _ _, k2.2 exy⟩
  have hlx := c5 (sg T n m) hok (Nat.lt_succ_of_le (sg_le _ _ _ _)) (by rw [g2, exy])
  have hge : ¬ ix (T + 1) se n < m := fun z => by
    have := (g6 _ _ hix hpx).2 z
    rw [exy] at this
    exact bt_irr this
  have hm0 : ix (T + 1) se n = m := by
    rcases hlx with q | ⟨i, -, q2, q3, q4⟩
    · exact sg_inj hix g1 (fun j hj => by rw [hsg j hj]; exact q j (Nat.zero_le j) hj)
    · have := sg_less hix g1 q2 (fun j hj => by rw [hsg j (by omega)]; exact q3 j (Nat.zero_le j) hj) (by rw [hsg i q2]; exact q4)
      exact absurd this hge
  simp only [Prod.mk.injEq] at exy
  obtain ⟨rfl, rfl⟩ := exy
  obtain ⟨-, b2, b3, b4⟩ := hB
  rw [g5] at b2 b3 b4
  refine ⟨se, c1.1, fun k hk => ?_, fun k hk => ?_, by rw [a3, b2], by rw [a4, b3]⟩
  · rw [c4 k hk, if_neg (Nat.not_lt_zero k)]
  · rw [b4 k hk, ← hm0]
    show nI (sg T n (ix (T + 1) se n) k) = _
    rw [hsg k hk]
end

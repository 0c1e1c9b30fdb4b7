theorem mmin_N {a b : Nat} (ha : a < 2147483648) (hb : b < 2147483648) : mmin (nI a) (nI b) = nI (min a b) := by
  unfold mmin
  by_cases q : b < a
  · rw [if_pos ((nI_ltI hb ha).mpr q), Nat.min_eq_right (by omega)]
  · rw [if_neg (fun z => q ((nI_ltI hb ha).mp z)), Nat.min_eq_left (by omega)]
theorem updI_s {f : Nat → Int32} {k : Nat} {v : Int32} : upd f k v k = v := by simp [upd]
theorem updI_n {f : Nat → Int32} {k j : Nat} {v : Int32} (h : j ≠ k) : upd f k v j = f j := by simp [upd, h]
/-- a digit as the class has it -/
def dg (T x : Nat) : Int32 := if x < T then nI x else -1
section
variable {tr : Nat → Nat → Nat} {hd rm lk sp : Nat → Nat} {T n : Nat}
def okP (tr : Nat → Nat → Nat) (hd rm lk sp : Nat → Nat) (T r p : Nat) (ml pl : Nat → Nat) (se : Nat → Nat) : Prop := (∀ j, se j ≤ T) ∧ srv tr hd rm lk sp T se r p ml pl
/-- what the search has come to, when the plans whose digit at p is below t have been gone through -/
def Acc (tr : Nat → Nat → Nat) (hd rm lk sp : Nat → Nat) (T n r p : Nat) (ml pl : Nat → Nat) (d m t : Nat) (s : pS) (D Mi : Nat) (s' : pS) (D' Mi' : Nat) : Prop :=
  D' < 1000 ∧ Mi' < 100000 ∧ s'.2.2.1 = nI D' ∧ s'.2.2.2 = nI Mi' ∧ (∀ j, j < p → s'.1 j = s.1 j) ∧ (∀ se v, okP tr hd rm lk sp T r p ml pl se → se p < t → pv tr hd rm lk sp T se r p ml pl d m = some v → ¬ bt v (D', Mi')) ∧
  ((D' = D ∧ Mi' = Mi ∧ ∀ j, j < n → s'.2.1 j = s.2.1 j) ∨ (bt (D', Mi') (D, Mi) ∧ ∃ se, okP tr hd rm lk sp T r p ml pl se ∧ se p < t ∧ pv tr hd rm lk sp T se r p ml pl d m = some (D', Mi') ∧ (∀ j, j < n → s'.2.1 j = if j < p then s.1 j else dg T (se j)) ∧ ∀ se', okP tr hd rm lk sp T r p ml pl se' → se' p < t → pv tr hd rm lk sp T se' r p ml pl d m = some (D', Mi') → lxl p n se se'))
theorem acc_step {r p t d m d2 m2 D Mi D1 Mi1 D2 Mi2 : Nat} {ml pl ml2 pl2 : Nat → Nat} {s s1 s2 : pS} {x : Int32} (hp : p < n) (hx : x = dg T t) (ht : t ≤ T) (hA : Acc tr hd rm lk sp T n (r + 1) p ml pl d m t s D Mi s1 D1 Mi1) (hB : Acc tr hd rm lk sp T n r (p + 1) ml2 pl2 d2 m2 (T + 1) (upd s1.1 p x, s1.2) D1 Mi1 s2 D2 Mi2)
    (l1 : ∀ se, okP tr hd rm lk sp T (r + 1) p ml pl se → se p = t → okP tr hd rm lk sp T r (p + 1) ml2 pl2 se ∧ pv tr hd rm lk sp T se (r + 1) p ml pl d m = pv tr hd rm lk sp T se r (p + 1) ml2 pl2 d2 m2) (l2 : ∀ se, okP tr hd rm lk sp T r (p + 1) ml2 pl2 se → okP tr hd rm lk sp T (r + 1) p ml pl (updN se p t)) :
    Acc tr hd rm lk sp T n (r + 1) p ml pl d m (t + 1) s D Mi s2 D2 Mi2 := by
  obtain ⟨a1, a2, a3, a4, a5, a6, a7⟩ := hA
  obtain ⟨b1, b2, b3, b4, b5, b6, b7⟩ := hB
  have hle : ¬ bt (D1, Mi1) (D2, Mi2) := by
    rcases b7 with ⟨e1, e2, -⟩ | ⟨e1, -⟩
    · rw [e1, e2]; exact bt_irr
    · exact fun z => bt_irr (bt_trans z e1)
  have hall : ∀ se v, okP tr hd rm lk sp T (r + 1) p ml pl se → se p < t + 1 → pv tr hd rm lk sp T se (r + 1) p ml pl d m = some v → ¬ bt v (D2, Mi2) := by
    intro se v h1 h2 h3
    by_cases e : se p = t
    · obtain ⟨g1, g2⟩ := l1 se h1 e
      rw [g2] at h3
      exact b6 se v g1 (Nat.lt_succ_of_le (g1.1 _)) h3
    · exact bt_le' (a6 se v h1 (by omega) h3) hle
  refine ⟨b1, b2, b3, b4, fun j hj => ?_, hall, ?_⟩
  · rw [b5 j (by omega)]
    show upd s1.1 p x j = _
    rw [updI_n (by omega)]
    exact a5 j hj
  rcases b7 with ⟨e1, e2, e3⟩ | ⟨e1, se, c1, c2, c3, c4, c5⟩
  · subst e1 e2
    rcases a7 with ⟨f1, f2, f3⟩ | ⟨f1, se, g1, g2, g3, g4, g5⟩
    · exact Or.inl ⟨f1, f2, fun j hj => (e3 j hj).trans (f3 j hj)⟩
    · refine Or.inr ⟨f1, se, g1, by omega, g3, fun j hj => (e3 j hj).trans (g4 j hj), fun se' h1 h2 h3 => ?_⟩
      by_cases e : se' p = t
      · exact Or.inr ⟨p, Nat.le_refl p, hp, fun j h1 h2 => by omega, by omega⟩
      · exact g5 se' h1 (by omega) h3
  · have hbt : bt (D2, Mi2) (D, Mi) := by
      rcases a7 with ⟨f1, f2, -⟩ | ⟨f1, -⟩
      · rw [← f1, ← f2]; exact e1
      · exact bt_trans e1 f1
    have hk := l2 se c1
    obtain ⟨k1, k2⟩ := l1 _ hk updN_s
    refine Or.inr ⟨hbt, updN se p t, hk, by rw [updN_s]; omega, ?_, fun j hj => ?_, fun se' h1 h2 h3 => ?_⟩
    · rw [k2, ← c3]
      exact pv_c _ _ _ _ _ _ (fun j h1 h2 => updN_n (by omega))
    · rw [c4 j hj]
      by_cases e : j < p
      · rw [if_pos (by omega), if_pos e]
        show upd s1.1 p x j = _
        rw [updI_n (by omega)]
        exact a5 j e
      · rw [if_neg e]
        by_cases e2 : j = p
        · subst e2
          rw [if_pos (by omega), updN_s]
          show upd s1.1 j x j = _
          rw [updI_s, hx]
        · rw [if_neg (by omega), updN_n e2]
    · by_cases e : se' p = t
      · obtain ⟨g1, g2⟩ := l1 se' h1 e
        rw [g2] at h3
        rcases c5 se' g1 (Nat.lt_succ_of_le (g1.1 _)) h3 with q | ⟨i, q1, q2, q3, q4⟩
        · refine Or.inl (fun j h1 h2 => ?_)
          by_cases e3 : j = p
          · rw [e3, updN_s, e]
          · rw [updN_n e3]; exact q j (by omega) h2
        · refine Or.inr ⟨i, by omega, q2, fun j h1 h2 => ?_, by rw [updN_n (by omega)]; exact q4⟩
          by_cases e3 : j = p
          · rw [e3, updN_s, e]
          · rw [updN_n e3]; exact q3 j (by omega) h2
      · exact absurd e1 (a6 se' _ h1 (by omega) h3)
/-- a digit that no plan may have -/
theorem acc_skip {r p t d m D Mi D1 Mi1 : Nat} {ml pl : Nat → Nat} {s s1 : pS} (hA : Acc tr hd rm lk sp T n (r + 1) p ml pl d m t s D Mi s1 D1 Mi1) (hn : ∀ se, okP tr hd rm lk sp T (r + 1) p ml pl se → se p ≠ t) : Acc tr hd rm lk sp T n (r + 1) p ml pl d m (t + 1) s D Mi s1 D1 Mi1 := by
  obtain ⟨a1, a2, a3, a4, a5, a6, a7⟩ := hA
  refine ⟨a1, a2, a3, a4, a5, fun se v h1 h2 h3 => a6 se v h1 (by have := hn se h1; omega) h3, ?_⟩
  rcases a7 with h | ⟨f1, se, g1, g2, g3, g4, g5⟩
  · exact Or.inl h
  · exact Or.inr ⟨f1, se, g1, by omega, g3, g4, fun se' h1 h2 h3 => g5 se' h1 (by have := hn se' h1; omega) h3⟩
/-- nothing better below here -/
theorem acc_cut {r p d m D Mi : Nat} {ml pl ml0 pl0 lo le : Nat → Nat} {s : pS} {t : Nat} (hb : bndOK tr hd rm lk sp T n ml0 pl0 lo le) (hk : p + r = n) (h1 : ∀ t, ml t ≤ ml0 t) (h2 : ∀ s, pl s ≤ pl0 s) (hD : D < 1000) (hM : Mi < 100000) (e1 : s.2.2.1 = nI D) (e2 : s.2.2.2 = nI Mi) (hc : D < d + lo p ∨ (d + lo p = D ∧ Mi ≤ m + le p)) : Acc tr hd rm lk sp T n r p ml pl d m t s D Mi s D Mi := by
  refine ⟨hD, hM, e1, e2, fun j _ => rfl, fun se v g1 _ g3 => ?_, Or.inl ⟨rfl, rfl, fun j _ => rfl⟩⟩
  obtain ⟨x, y⟩ := v
  obtain ⟨i1, i2⟩ := bnd hb r p ml pl d m x y hk h1 h2 g1.2 g3
  unfold bt
  show ¬ (x < D ∨ (x = D ∧ y < Mi))
  rintro (z | ⟨z1, z2⟩)
  · omega
  · have := i2 (by omega)
    omega
def sM (M : gM) (tr : Nat → Nat → Nat) (hd rm lk : Nat → Nat) (T n : Nat) (lo le : Nat → Nat) : Prop :=
  (∀ k t, k < n → t < T → M.1 (k + 32) t = nI (tr k t) ∧ tr k t ≤ 400) ∧ (∀ k, k < n → M.1 29 k = nI (lk k) ∧ lk k < 1000000 ∧ M.1 30 k = nI (rm k) ∧ rm k < 1000000) ∧ (∀ t, t < T → M.1 26 t = nI (hd t) ∧ hd t < 1000000) ∧ ∀ k, k ≤ n → M.1 40 k = nI (lo k) ∧ M.1 41 k = nI (le k) ∧ lo k ≤ 6 ∧ le k ≤ 2400
theorem pLoad_N {M : gM} {lo le : Nat → Nat} (hs : sM M tr hd rm lk T n lo le) {pl : Nat → Int32} {plN : Nat → Nat} {t p : Nat} (ht : t < T) (hp : p < n) (h : pl (sp t) = nI (plN (sp t))) (hl : plN (sp t) < 1000000) : pLoad M sp pl t p = nI (ld hd rm sp plN t p) := by
  obtain ⟨-, h2, h3, -⟩ := hs
  unfold pLoad ld
  rw [(h3 t ht).1, h, (h2 p hp).2.2.1, mmin_N (by have := (h3 t ht).2; omega) (by omega), mmin_N (by have := (h3 t ht).2; omega) (by have := (h2 p hp).2.2.2; omega)]
theorem cut_iff {D d a m e Mi : Nat} (h1 : D < 1000) (h2 : d ≤ 20) (h3 : a ≤ 6) (h4 : m ≤ 10000) (h5 : e ≤ 2400) (h6 : Mi < 100000) : (nI D < nI d + nI a ∨ (nI d + nI a = nI D ∧ ¬ nI m + nI e < nI Mi)) ↔ (D < d + a ∨ (d + a = D ∧ Mi ≤ m + e)) := by
  rw [nI_add, nI_add, nI_ltI (by omega) (by omega), nI_ltI (by omega) (by omega), nI_eq (by omega) (by omega)]
  omega
set_option maxHeartbeats 1000000 in
theorem srch_ok {M : gM} {ml0 pl0 lo le : Nat → Nat} (hT : T ≤ 4) (hs : sM M tr hd rm lk T n lo le) (hb : bndOK tr hd rm lk sp T n ml0 pl0 lo le) (hlk : ∀ k, k < n → 1 ≤ lk k) : ∀ r p d m (mlN plN : Nat → Nat) (ml pl : Nat → Int32) (s : pS) (D Mi : Nat), p + r = n → d + r ≤ 20 → m + 400 * r ≤ 10000 → (∀ t, t < T → ml t = nI (mlN t) ∧ mlN t < 1000000) → (∀ t, t < T → pl (sp t) = nI (plN (sp t)) ∧ plN (sp t) < 1000000) → (∀ t, mlN t ≤ ml0 t) → (∀ q, plN q ≤ pl0 q) → s.2.2.1 = nI D → s.2.2.2 = nI Mi → D < 1000 → Mi < 100000 → ∃ D' Mi', Acc tr hd rm lk sp T n r p mlN plN d m (T + 1) s D Mi (srch M sp T n r p (nI d) (nI m) pl ml s) D' Mi' := by
  intro r
  induction r with
  | zero =>
    intro p d m mlN plN ml pl s D Mi hk hd1 hm1 hml hpl h1 h2 e1 e2 hD hM
    obtain rfl : p = n := by omega
    have hl := hs.2.2.2 p (Nat.le_refl p)
    unfold srch
    rw [hl.1, hl.2.1, e1, e2]
    by_cases q : D < d + lo p ∨ (d + lo p = D ∧ Mi ≤ m + le p)
    · rw [if_pos ((cut_iff hD (by omega) hl.2.2.1 (by omega) hl.2.2.2 hM).mpr q)]
      exact ⟨D, Mi, acc_cut hb (by omega) h1 h2 hD hM e1 e2 q⟩
    · rw [if_neg (fun z => q ((cut_iff hD (by omega) hl.2.2.1 (by omega) hl.2.2.2 hM).mp z))]
      rw [hb.1, hb.2.1] at q
      refine ⟨d, m, by omega, by omega, rfl, rfl, fun j _ => rfl, fun se v g1 g2 g3 => ?_, Or.inr ⟨?_, fun _ => T, ⟨fun _ => Nat.le_refl T, trivial⟩, Nat.lt_succ_self T, rfl, fun j hj => ?_, fun se' _ _ _ => Or.inl (fun j h3 h4 => by omega)⟩⟩
      · cases g3; exact bt_irr
      · show d < D ∨ (d = D ∧ m < Mi)
        omega
      · show (if j < p then s.1 j else s.2.1 j) = _
        rw [if_pos hj, if_pos hj]
  | succ r ih =>
    intro p d m mlN plN ml pl s D Mi hk hd1 hm1 hml hpl h1 h2 e1 e2 hD hM
    have hpn : p < n := by omega
    have hl := hs.2.2.2 p (by omega)
    unfold srch
    rw [hl.1, hl.2.1, e1, e2]
    by_cases q : D < d + lo p ∨ (d + lo p = D ∧ Mi ≤ m + le p)
    · rw [if_pos ((cut_iff hD (by omega) hl.2.2.1 (by omega) hl.2.2.2 hM).mpr q)]
      exact ⟨D, Mi, acc_cut hb (by omega) h1 h2 hD hM e1 e2 q⟩
    · rw [if_neg (fun z => q ((cut_iff hD (by omega) hl.2.2.1 (by omega) hl.2.2.2 hM).mp z))]
      -- the tankers in turn
      have hin : ∀ t, t ≤ T → ∃ D1 Mi1, Acc tr hd rm lk sp T n (r + 1) p mlN plN d m t s D Mi (itr (fun t s => if ¬ ml t < M.1 (p + 32) t ∧ ¬ pLoad M sp pl t p < M.1 29 p then srch M sp T n r (p + 1) (nI d) (nI m + M.1 (p + 32) t) (upd pl (sp t) (pl (sp t) - pLoad M sp pl t p)) (upd ml t (ml t - M.1 (p + 32) t)) (upd s.1 p (nI t), s.2) else s) t s) D1 Mi1 := by
        intro t
        induction t with
        | zero => exact fun _ => ⟨D, Mi, hD, hM, e1, e2, fun j _ => rfl, fun se v _ z _ => absurd z (Nat.not_lt_zero _), Or.inl ⟨rfl, rfl, fun j _ => rfl⟩⟩
        | succ t iht =>
          intro ht
          obtain ⟨D1, Mi1, hA⟩ := iht (by omega)
          have htT : t < T := by omega
          have hld := pLoad_N hs htT hpn (hpl t htT).1 (hpl t htT).2
          have htr := hs.1 p t hpn htT
          have hlk2 := hs.2.1 p hpn
          have hldl : ld hd rm sp plN t p < 1000000 := by have := (hpl t htT).2; unfold ld; omega
          have hldp : ld hd rm sp plN t p ≤ plN (sp t) := by unfold ld; omega
          have hm := hml t htT
          have ha := h1 t
          have hbp := h2 (sp t)
          show ∃ D1 Mi1, Acc tr hd rm lk sp T n (r + 1) p mlN plN d m (t + 1) s D Mi (if ¬ ml t < M.1 (p + 32) t ∧ ¬ pLoad M sp pl t p < M.1 29 p then srch M sp T n r (p + 1) (nI d) (nI m + M.1 (p + 32) t) (upd pl (sp t) (pl (sp t) - pLoad M sp pl t p)) (upd ml t (ml t - M.1 (p + 32) t)) (upd (itr _ t s).1 p (nI t), (itr _ t s).2) else itr _ t s) D1 Mi1
          have hA' := hA
          obtain ⟨a1, a2, a3, a4, -⟩ := hA'
          generalize itr _ t s = s1v at hA a3 a4 ⊢
          rw [hld, htr.1, hlk2.1, hm.1, (hpl t htT).1]
          by_cases hsv : ¬ nI (mlN t) < nI (tr p t) ∧ ¬ nI (ld hd rm sp plN t p) < nI (lk p)
          · rw [if_pos hsv]
            have s1 := nlt_f (by omega) (by omega) hsv.1
            have s2 := nlt_f (by omega) (by omega) hsv.2
            rw [nI_add, pk_sub s1, pk_sub hldp]
            obtain ⟨D2, Mi2, hB⟩ := ih (p + 1) d (m + tr p t) (updN mlN t (mlN t - tr p t)) (updN plN (sp t) (plN (sp t) - ld hd rm sp plN t p)) (upd ml t (nI (mlN t - tr p t))) (upd pl (sp t) (nI (plN (sp t) - ld hd rm sp plN t p))) (upd s1v.1 p (nI t), s1v.2) D1 Mi1 (by omega) (by omega) (by omega) (fun t2 ht2 => by
              by_cases e : t2 = t
              · rw [e, updI_s, updN_s]; exact ⟨rfl, by omega⟩
              · rw [updI_n e, updN_n e]; exact hml t2 ht2) (fun t2 ht2 => by
              by_cases e : sp t2 = sp t
              · rw [e, updI_s, updN_s]; exact ⟨rfl, by have := (hpl t htT).2; omega⟩
              · rw [updI_n e, updN_n e]; exact hpl t2 ht2) (fun t2 => by
              by_cases e : t2 = t
              · rw [e, updN_s]; omega
              · rw [updN_n e]; exact h1 t2) (fun q2 => by
              by_cases e : q2 = sp t
              · rw [e, updN_s]; omega
              · rw [updN_n e]; exact h2 q2) a3 a4 a1 a2
            refine ⟨D2, Mi2, acc_step hpn (by unfold dg; rw [if_pos htT]) (by omega) hA hB (fun se g1 g2 => ?_) (fun se g1 => ?_)⟩
            · obtain ⟨g1, g3⟩ := g1
              unfold srv at g3
              rw [g2, if_pos htT] at g3
              refine ⟨⟨g1, g3.2.2⟩, ?_⟩
              rw [pv, g2, if_pos htT, if_neg (by omega), if_neg (by omega)]
              rfl
            · refine ⟨fun j => ?_, ?_⟩
              · by_cases e : j = p
                · rw [e, updN_s]; omega
                · rw [updN_n e]; exact g1.1 j
              · unfold srv
                rw [updN_s, if_pos htT]
                refine ⟨s1, s2, (srv_c _ _ _ _ (fun j h3 h4 => updN_n (by omega))).mpr g1.2⟩
          · rw [if_neg hsv]
            refine ⟨D1, Mi1, acc_skip hA (fun se g1 e => hsv ?_)⟩
            obtain ⟨g1, g3⟩ := g1
            unfold srv at g3
            rw [e, if_pos htT] at g3
            exact ⟨fun z => by have := nlt_t (by omega) (by omega) z; omega, fun z => by have := nlt_t (by omega) (by omega) z; omega⟩
      obtain ⟨D1, Mi1, hA⟩ := hin T (Nat.le_refl T)
      have hA' := hA
      obtain ⟨a1, a2, a3, a4, -⟩ := hA'
      show ∃ D' Mi', Acc tr hd rm lk sp T n (r + 1) p mlN plN d m (T + 1) s D Mi (srch M sp T n r (p + 1) (nI d + 1) (nI m) pl ml (upd (itr _ T s).1 p (-1), (itr _ T s).2)) D' Mi'
      generalize itr _ T s = s1v at hA a3 a4 ⊢
      rw [nI_1]
      obtain ⟨D2, Mi2, hB⟩ := ih (p + 1) (d + 1) m mlN plN ml pl (upd s1v.1 p (-1), s1v.2) D1 Mi1 (by omega) (by omega) (by omega) hml hpl h1 h2 a3 a4 a1 a2
      refine ⟨D2, Mi2, acc_step hpn (by unfold dg; rw [if_neg (Nat.lt_irrefl T)]) (Nat.le_refl T) hA hB (fun se g1 g2 => ?_) (fun se g1 => ?_)⟩
      · obtain ⟨g1, g3⟩ := g1
        unfold srv at g3
        rw [g2, if_neg (Nat.lt_irrefl T)] at g3
        refine ⟨⟨g1, g3⟩, ?_⟩
        rw [pv, g2, if_neg (Nat.lt_irrefl T)]
      · refine ⟨fun j => ?_, ?_⟩
        · by_cases e : j = p
          · rw [e, updN_s]; exact Nat.le_refl T
          · rw [updN_n e]; exact g1.1 j
        · unfold srv
          rw [updN_s, if_neg (Nat.lt_irrefl T)]
          exact (srv_c _ _ _ _ (fun j h3 h4 => updN_n (by omega))).mpr g1.2
end

/-! more of the machine: places, where it ends, lines, texts -/
theorem at_stp {T : cS} : ∀ s : mS, s.2.1 ≤ (stp T s).2.1 := by
  rintro ⟨m, a, d, u, W, c⟩
  match m with
  | 0 =>
    by_cases q1 : (T a).1 < 7 ∨ (T a).1 = 15
    · by_cases q5 : d = 5
      · subst q5; rw [st0_l q1]; exact Nat.le_refl _
      · by_cases q15 : (T a).1 = 15
        · rw [st0_o q15 q5]; exact Nat.le_succ _
        · rw [st0_p (by omega) q5]; exact Nat.le_succ _
    · rw [st0_f q1]; exact Nat.le_refl _
  | 1 =>
    by_cases q : (W d).1 = 0
    · rw [st1_0 q]; exact Nat.le_refl _
    · rw [st1_f q]; exact Nat.le_refl _
  | 2 =>
    by_cases q : (T a).1 = 7 ∨ (T a).1 = 8
    · rw [st2_y q]; exact Nat.le_succ _
    · rw [st2_n q]; exact Nat.le_refl _
  | 3 =>
    by_cases q : (W d).2.1 = 0
    · rw [st3_0 q]; exact Nat.le_refl _
    · rw [st3_f q]; exact Nat.le_refl _
  | 4 =>
    by_cases q : (T a).1 = 9 ∨ (T a).1 = 10
    · rw [st4_y q]; exact Nat.le_succ _
    · rw [st4_n q]; exact Nat.le_refl _
  | 5 =>
    by_cases q : (W d).2.2 = 0
    · rw [st5_0 q]; exact Nat.le_refl _
    · rw [st5_f q]; exact Nat.le_refl _
  | 6 =>
    by_cases q : (T a).1 = 11
    · rw [st6_y q]; exact Nat.le_succ _
    · rw [st6_n q]; exact Nat.le_refl _
  | 7 =>
    match d with
    | 0 => exact Nat.le_refl _
    | d + 1 =>
      by_cases q : (T a).1 = 16
      · rw [st7_y q]; exact Nat.le_succ _
      · rw [st7_n q]; exact Nat.le_refl _
  | m + 8 => exact Nat.le_refl _
theorem at_run {T : cS} {s s' : mS} (h : Run T s s') : s.2.1 ≤ s'.2.1 := by
  obtain ⟨n, rfl⟩ := h
  induction n generalizing s with
  | zero => exact Nat.le_refl _
  | succ n ih => exact Nat.le_trans (at_stp s) ih
/-- steps and waits are no more than the tokens taken -/
def uInv (s : mS) : Prop := match s with
  | (m, a, d, u, W, _) => m ≤ 8 → u + (pend W d + wn (W d)) ≤ a
theorem w01_0 : w01 0 = 0 := rfl
theorem uInv_stp {T : cS} : ∀ s, uInv s → uInv (stp T s) := by
  rintro ⟨m, a, d, u, W, c⟩ h
  by_cases hm : 8 ≤ m
  · have e : stp T (m, a, d, u, W, c) = (m, a, d, u, W, c) := by
      match m, hm with
      | k + 8, _ => rfl
    rw [e]; exact h
  have h1 : u + (pend W d + (w01 (W d).1 + w01 (W d).2.1 + w01 (W d).2.2)) ≤ a := h (by omega)
  have l1 := w01_le (W d).1
  have l2 := w01_le (W d).2.1
  have l3 := w01_le (W d).2.2
  have l4 := w01_le (T a).1
  match m, hm with
  | 0, _ =>
    by_cases q1 : (T a).1 < 7 ∨ (T a).1 = 15
    · by_cases q5 : d = 5
      · subst q5; rw [st0_l q1]; intro z; omega
      · by_cases q15 : (T a).1 = 15
        · rw [st0_o q15 q5]
          intro _
          rw [wset_s, pend_c (W := W) (d + 1) (fun k hk => wset_n (by omega))]
          show u + (pend W d + (w01 (W d).1 + w01 (W d).2.1 + w01 (W d).2.2) + 0) ≤ a + 1
          omega
        · rw [st0_p (by omega) q5]
          intro _
          show u + 1 + (pend W d + (w01 (W d).1 + w01 (W d).2.1 + w01 (W d).2.2)) ≤ a + 1
          omega
    · rw [st0_f q1]; intro z; omega
  | 1, _ =>
    by_cases q : (W d).1 = 0
    · rw [st1_0 q]; exact fun _ => h1
    · rw [st1_f q]
      intro _
      rw [wset_s, pd_ws]
      have := w01_n q
      show u + 1 + (pend W d + (0 + w01 (W d).2.1 + w01 (W d).2.2)) ≤ a
      omega
  | 2, _ =>
    by_cases q : (T a).1 = 7 ∨ (T a).1 = 8
    · rw [st2_y q]
      intro _
      rw [wset_s, pd_ws]
      show u + (pend W d + (w01 (T a).1 + w01 (W d).2.1 + w01 (W d).2.2)) ≤ a + 1
      omega
    · rw [st2_n q]; exact fun _ => h1
  | 3, _ =>
    by_cases q : (W d).2.1 = 0
    · rw [st3_0 q]; exact fun _ => h1
    · rw [st3_f q]
      intro _
      rw [wset_s, pd_ws]
      have := w01_n q
      show u + 1 + (pend W d + (w01 (W d).1 + 0 + w01 (W d).2.2)) ≤ a
      omega
  | 4, _ =>
    by_cases q : (T a).1 = 9 ∨ (T a).1 = 10
    · rw [st4_y q]
      intro _
      rw [wset_s, pd_ws]
      show u + (pend W d + (w01 (W d).1 + w01 (T a).1 + w01 (W d).2.2)) ≤ a + 1
      omega
    · rw [st4_n q]; exact fun _ => h1
  | 5, _ =>
    by_cases q : (W d).2.2 = 0
    · rw [st5_0 q]; exact fun _ => h1
    · rw [st5_f q]
      intro _
      rw [wset_s, pd_ws]
      have := w01_n q
      show u + 1 + (pend W d + (w01 (W d).1 + w01 (W d).2.1 + 0)) ≤ a
      omega
  | 6, _ =>
    by_cases q : (T a).1 = 11
    · rw [st6_y q]
      intro _
      rw [wset_s, pd_ws]
      show u + (pend W d + (w01 (W d).1 + w01 (W d).2.1 + w01 11)) ≤ a + 1
      have := w01_le 11
      omega
    · rw [st6_n q]; exact fun _ => h1
  | 7, _ =>
    match d with
    | 0 => exact fun _ => h1
    | d + 1 =>
      by_cases q : (T a).1 = 16
      · rw [st7_y q]
        intro _
        have h2 : u + ((pend W d + wn (W d)) + (w01 (W (d + 1)).1 + w01 (W (d + 1)).2.1 + w01 (W (d + 1)).2.2)) ≤ a := h1
        show u + (pend W d + wn (W d)) ≤ a + 1
        omega
      · rw [st7_n q]; intro z; omega
  | k + 8, hm => exact absurd (Nat.le_add_left 8 k) hm
theorem uInv_run {T : cS} {s s' : mS} (h : Run T s s') (hi : uInv s) : uInv s' := by
  obtain ⟨n, rfl⟩ := h
  induction n generalizing s with
  | zero => exact hi
  | succ n ih => exact ih (uInv_stp _ hi)
/-- where the machine ends -/
theorem itS_fix {T : cS} {s : mS} (h : stp T s = s) : ∀ n, itS T n s = s
  | 0 => rfl
  | n + 1 => by
    show itS T n (stp T s) = s
    rw [h]; exact itS_fix h n
theorem run_uniq {T : cS} {s s1 s2 : mS} (h1 : Run T s s1) (h2 : Run T s s2) (e1 : stp T s1 = s1) (e2 : stp T s2 = s2) : s1 = s2 := by
  obtain ⟨n, hn⟩ := h1
  obtain ⟨m, hm⟩ := h2
  have g1 : itS T (n + m) s = s1 := by rw [itS_add, hn, itS_fix e1]
  have g2 : itS T (m + n) s = s2 := by rw [itS_add, hm, itS_fix e2]
  rw [← g1, ← g2, Nat.add_comm]
noncomputable def fin (T : cS) (s : mS) : mS := by
  classical
  exact if h : ∃ s', Run T s s' ∧ stp T s' = s' then Classical.choose h else s
theorem fin_eq {T : cS} {s s' : mS} (h : Run T s s') (e : stp T s' = s') : fin T s = s' := by
  have hx : ∃ s', Run T s s' ∧ stp T s' = s' := ⟨s', h, e⟩
  unfold fin
  rw [dif_pos hx]
  have := Classical.choose_spec hx
  exact run_uniq this.1 h this.2 e
theorem fin_run {T : cS} {s : mS} : Run T s (fin T s) := by
  unfold fin
  split
  · rename_i h
    exact (Classical.choose_spec h).1
  · exact Run.rf
def Wz : wS := fun _ => (0, 0, 0)
/-- a line: what is wrong (0: nothing), where, steps so far -/
noncomputable def lnG (T : cS) (n a u : Nat) (c : cS) : Nat × Nat × Nat × cS :=
  if ¬ ((T a).1 = 12 ∨ (T a).1 = 13) then (1, a, u, c) else if n = 16 then (5, a, u, c) else if (T (a + 1)).1 ≠ 0 then (1, a + 1, u, c) else if 99 < (T (a + 1)).2 then (4, a + 1, u, c) else if (T (a + 2)).1 ≠ 14 then (1, a + 2, u, c) else
  if (fin T (0, a + 3, 0, u, Wz, c)).1 = 8 then (if (T (fin T (0, a + 3, 0, u, Wz, c)).2.1).1 = 17 then (0, (fin T (0, a + 3, 0, u, Wz, c)).2.1 + 1, (fin T (0, a + 3, 0, u, Wz, c)).2.2.2.1, (fin T (0, a + 3, 0, u, Wz, c)).2.2.2.2.2) else (1, (fin T (0, a + 3, 0, u, Wz, c)).2.1, u, c))
  else ((fin T (0, a + 3, 0, u, Wz, c)).1 - 10, (fin T (0, a + 3, 0, u, Wz, c)).2.1, u, c)
section
variable {T : cS} {n a u : Nat} {c : cS}
theorem ln_1 (h : ¬ ((T a).1 = 12 ∨ (T a).1 = 13)) : lnG T n a u c = (1, a, u, c) := if_pos h
theorem ln_2 (h : (T a).1 = 12 ∨ (T a).1 = 13) : lnG T 16 a u c = (5, a, u, c) := by
  unfold lnG
  rw [if_neg (fun q => q h), if_pos rfl]
theorem ln_3 (h : (T a).1 = 12 ∨ (T a).1 = 13) (hn : n ≠ 16) (h1 : (T (a + 1)).1 ≠ 0) : lnG T n a u c = (1, a + 1, u, c) := by
  unfold lnG
  rw [if_neg (fun q => q h), if_neg hn, if_pos h1]
theorem ln_4 (h : (T a).1 = 12 ∨ (T a).1 = 13) (hn : n ≠ 16) (h1 : (T (a + 1)).1 = 0) (h2 : 99 < (T (a + 1)).2) : lnG T n a u c = (4, a + 1, u, c) := by
  unfold lnG
  rw [if_neg (fun q => q h), if_neg hn, if_neg (fun q => q h1), if_pos h2]
theorem ln_5 (h : (T a).1 = 12 ∨ (T a).1 = 13) (hn : n ≠ 16) (h1 : (T (a + 1)).1 = 0) (h2 : ¬ 99 < (T (a + 1)).2) (h3 : (T (a + 2)).1 ≠ 14) : lnG T n a u c = (1, a + 2, u, c) := by
  unfold lnG
  rw [if_neg (fun q => q h), if_neg hn, if_neg (fun q => q h1), if_neg h2, if_pos h3]
theorem ln_6 (h : (T a).1 = 12 ∨ (T a).1 = 13) (hn : n ≠ 16) (h1 : (T (a + 1)).1 = 0) (h2 : ¬ 99 < (T (a + 1)).2) (h3 : (T (a + 2)).1 = 14) {k a' d' u' : Nat} {W' : wS} {c' : cS} (hr : Run T (0, a + 3, 0, u, Wz, c) (10 + k, a', d', u', W', c')) : lnG T n a u c = (k, a', u, c) := by
  have e := fin_eq hr (by rw [Nat.add_comm]; rfl)
  unfold lnG
  rw [if_neg (fun q => q h), if_neg hn, if_neg (fun q => q h1), if_neg h2, if_neg (fun q => q h3), e, if_neg (show ¬ 10 + k = 8 by omega), show 10 + k - 10 = k by omega]
theorem ln_7 (h : (T a).1 = 12 ∨ (T a).1 = 13) (hn : n ≠ 16) (h1 : (T (a + 1)).1 = 0) (h2 : ¬ 99 < (T (a + 1)).2) (h3 : (T (a + 2)).1 = 14) {a' d' u' : Nat} {W' : wS} {c' : cS} (hr : Run T (0, a + 3, 0, u, Wz, c) (8, a', d', u', W', c')) (h4 : (T a').1 ≠ 17) : lnG T n a u c = (1, a', u, c) := by
  have e := fin_eq hr rfl
  unfold lnG
  rw [if_neg (fun q => q h), if_neg hn, if_neg (fun q => q h1), if_neg h2, if_neg (fun q => q h3), e, if_pos rfl, if_neg h4]
theorem ln_8 (h : (T a).1 = 12 ∨ (T a).1 = 13) (hn : n ≠ 16) (h1 : (T (a + 1)).1 = 0) (h2 : ¬ 99 < (T (a + 1)).2) (h3 : (T (a + 2)).1 = 14) {a' d' u' : Nat} {W' : wS} {c' : cS} (hr : Run T (0, a + 3, 0, u, Wz, c) (8, a', d', u', W', c')) (h4 : (T a').1 = 17) : lnG T n a u c = (0, a' + 1, u', c') := by
  have e := fin_eq hr rfl
  unfold lnG
  rw [if_neg (fun q => q h), if_neg hn, if_neg (fun q => q h1), if_neg h2, if_neg (fun q => q h3), e, if_pos rfl, if_pos h4]
end
/-- a text's lines: what is wrong (0: nothing), where, lines, beast?, litres, starts, steps -/
abbrev oT : Type := Nat × (Nat → Bool) × (Nat → Int32) × (Nat → Nat) × cS
noncomputable def txG (T : cS) : Nat → Nat → oT → Nat × Nat × oT
  | 0, a, s => (0, a, s)
  | f + 1, a, s => if (T a).1 = 18 then (0, a, s) else
    if (lnG T s.1 a (s.2.2.2.1 s.1) s.2.2.2.2).1 = 0 then
      txG T f (lnG T s.1 a (s.2.2.2.1 s.1) s.2.2.2.2).2.1 (s.1 + 1, (fun i => if i = s.1 then decide ((T a).1 = 13) else s.2.1 i), (fun i => if i = s.1 then (T (a + 1)).2 else s.2.2.1 i), (fun i => if i = s.1 + 1 then (lnG T s.1 a (s.2.2.2.1 s.1) s.2.2.2.2).2.2.1 else s.2.2.2.1 i), (lnG T s.1 a (s.2.2.2.1 s.1) s.2.2.2.2).2.2.2)
    else ((lnG T s.1 a (s.2.2.2.1 s.1) s.2.2.2.2).1, (lnG T s.1 a (s.2.2.2.1 s.1) s.2.2.2.2).2.1, s)
def oT0 : oT := (0, (fun _ => false), (fun _ => 0), (fun _ => 0), fun _ => (0, 0))
def oTn (s : oT) (be : Bool) (li : Int32) (u : Nat) (c : cS) : oT := (s.1 + 1, (fun i => if i = s.1 then be else s.2.1 i), (fun i => if i = s.1 then li else s.2.2.1 i), (fun i => if i = s.1 + 1 then u else s.2.2.2.1 i), c)
theorem tx_0 {T : cS} {f a : Nat} {s : oT} (h : (T a).1 = 18) : txG T (f + 1) a s = (0, a, s) := if_pos h
theorem tx_f {T : cS} {f a k a' u' : Nat} {c' : cS} {s : oT} (h : (T a).1 ≠ 18) (hl : lnG T s.1 a (s.2.2.2.1 s.1) s.2.2.2.2 = (k, a', u', c')) (hk : k ≠ 0) : txG T (f + 1) a s = (k, a', s) := by
  unfold txG
  rw [if_neg h, hl, if_neg hk]
theorem tx_s {T : cS} {f a a' u' : Nat} {c' : cS} {s : oT} (h : (T a).1 ≠ 18) (hl : lnG T s.1 a (s.2.2.2.1 s.1) s.2.2.2.2 = (0, a', u', c')) : txG T (f + 1) a s = txG T f a' (oTn s (decide ((T a).1 = 13)) (T (a + 1)).2 u' c') := by
  conv => lhs; unfold txG
  rw [if_neg h, hl, if_pos rfl]
  rfl
/-- what orders are: as they stand in class and model -/
def oOK (s : oT) : Prop := s.1 ≤ 16 ∧ s.2.2.2.1 s.1 ≤ 600 ∧ (∀ i, i < s.1 → s.2.2.2.1 i ≤ s.2.2.2.1 (i + 1) ∧ hchk s.2.2.2.2 (s.2.2.2.1 i) (s.2.2.2.1 (i + 1) - s.2.2.2.1 i) 0) ∧ ∀ j, j < s.2.2.2.1 s.1 → okC (s.2.2.2.2 j)
theorem oOK.nx {T : cS} (hT : ∀ a, tW (T a)) {s : oT} (h : oOK s) (h16 : s.1 < 16) {a a' u' d' : Nat} {W' : wS} {c' : cS} {be : Bool} {li : Int32} (hr : Run T (0, a, 0, s.2.2.2.1 s.1, Wz, s.2.2.2.2) (8, a', d', u', W', c')) (hu : u' ≤ 600) : oOK (oTn s be li u' c') ∧ s.2.2.2.1 s.1 ≤ u' ∧ ∀ j, j < s.2.2.2.1 s.1 → c' j = s.2.2.2.2 j := by
  obtain ⟨g1, g2, g3, g4⟩ := test_ok hT rfl hr
  obtain ⟨k1, k2, k3, k4⟩ := h
  have e : ∀ i, i ≤ s.1 → (oTn s be li u' c').2.2.2.1 i = s.2.2.2.1 i := fun i hi => if_neg (by omega)
  have e1 : (oTn s be li u' c').2.2.2.1 (s.1 + 1) = u' := if_pos rfl
  refine ⟨⟨h16, by rw [show (oTn s be li u' c').1 = s.1 + 1 from rfl, e1]; exact hu, fun i (hi : i < s.1 + 1) => ?_, fun j hj => ?_⟩, g1, g2⟩
  · by_cases ei : i = s.1
    · subst ei
      rw [e _ (Nat.le_refl _), e1]
      exact ⟨g1, g4⟩
    · have hST := ST_le (fun k hk => (k3 k hk).1) (i + 1) (by omega)
      have h1 := (k3 i (by omega)).1
      rw [e i (by omega), e (i + 1) (by omega)]
      exact ⟨h1, hchk_c _ _ _ (fun j h1 h2 => g2 j (by omega)) (k3 i (by omega)).2⟩
  · rw [show (oTn s be li u' c').1 = s.1 + 1 from rfl, e1] at hj
    show okC (c' j)
    by_cases q : j < s.2.2.2.1 s.1
    · rw [g2 j q]; exact k4 j q
    · exact g3 j (by omega) hj

/-! the reading of a test as a machine: mode, place, depth, steps so far, waits by depth, steps -/
abbrev wS : Type := Nat → Nat × Nat × Nat
abbrev cS : Type := Nat → Nat × Int32
abbrev mS : Type := Nat × Nat × Nat × Nat × wS × cS
def wset (W : wS) (d : Nat) (x : Nat × Nat × Nat) : wS := fun k => if k = d then x else W k
def cset (c : cS) (u : Nat) (x : Nat × Int32) : cS := fun k => if k = u then x else c k
theorem wset_s {W : wS} {d : Nat} {x : Nat × Nat × Nat} : wset W d x d = x := by simp [wset]
theorem wset_n {W : wS} {d k : Nat} {x : Nat × Nat × Nat} (h : k ≠ d) : wset W d x k = W k := by simp [wset, h]
theorem cset_s {c : cS} {u : Nat} {x : Nat × Int32} : cset c u x u = x := by simp [cset]
theorem cset_n {c : cS} {u k : Nat} {x : Nat × Int32} (h : k ≠ u) : cset c u x k = c k := by simp [cset, h]
def stp (T : cS) (s : mS) : mS := match s with
  | (0, a, d, u, W, c) => if ¬ ((T a).1 < 7 ∨ (T a).1 = 15) then (11, a, d, u, W, c) else if d = 5 then (15, a, d, u, W, c) else if (T a).1 = 15 then (0, a + 1, d + 1, u, wset W (d + 1) (0, 0, 0), c) else (1, a + 1, d, u + 1, W, cset c u (T a))
  | (1, a, d, u, W, c) => if (W d).1 = 0 then (2, a, d, u, W, c) else (2, a, d, u + 1, wset W d (0, (W d).2), cset c u ((W d).1, 0))
  | (2, a, d, u, W, c) => if (T a).1 = 7 ∨ (T a).1 = 8 then (0, a + 1, d, u, wset W d ((T a).1, (W d).2), c) else (3, a, d, u, W, c)
  | (3, a, d, u, W, c) => if (W d).2.1 = 0 then (4, a, d, u, W, c) else (5, a, d, u + 1, wset W d ((W d).1, 0, (W d).2.2), cset c u ((W d).2.1, 0))
  | (4, a, d, u, W, c) => if (T a).1 = 9 ∨ (T a).1 = 10 then (0, a + 1, d, u, wset W d ((W d).1, (T a).1, (W d).2.2), c) else (5, a, d, u, W, c)
  | (5, a, d, u, W, c) => if (W d).2.2 = 0 then (6, a, d, u, W, c) else (6, a, d, u + 1, wset W d ((W d).1, (W d).2.1, 0), cset c u ((W d).2.2, 0))
  | (6, a, d, u, W, c) => if (T a).1 = 11 then (0, a + 1, d, u, wset W d ((W d).1, (W d).2.1, 11), c) else (7, a, d, u, W, c)
  | (7, a, d, u, W, c) => if d = 0 then (8, a, d, u, W, c) else if (T a).1 = 16 then (1, a + 1, d - 1, u, W, c) else (11, a, d, u, W, c)
  | s => s
def itS (T : cS) : Nat → mS → mS
  | 0, s => s
  | n + 1, s => itS T n (stp T s)
def Run (T : cS) (s s' : mS) : Prop := ∃ n, itS T n s = s'
theorem itS_add (T : cS) : ∀ n m s, itS T (n + m) s = itS T m (itS T n s)
  | 0, m, s => by rw [Nat.zero_add]; rfl
  | n + 1, m, s => by
    rw [show n + 1 + m = (n + m) + 1 by omega]
    exact itS_add T n m (stp T s)
theorem Run.rf {T : cS} {s : mS} : Run T s s := ⟨0, rfl⟩
theorem Run.trans {T : cS} {s s' s'' : mS} (h : Run T s s') (h' : Run T s' s'') : Run T s s'' := by
  obtain ⟨n, hn⟩ := h
  obtain ⟨m, hm⟩ := h'
  exact ⟨n + m, by rw [itS_add, hn, hm]⟩
theorem Run.st {T : cS} {s s' : mS} (h : stp T s = s') : Run T s s' := ⟨1, h⟩
section
variable {T : cS} {a d u : Nat} {W : wS} {c : cS}
theorem st0_f (h : ¬ ((T a).1 < 7 ∨ (T a).1 = 15)) : stp T (0, a, d, u, W, c) = (11, a, d, u, W, c) := if_pos h
theorem st0_l (h : (T a).1 < 7 ∨ (T a).1 = 15) : stp T (0, a, 5, u, W, c) = (15, a, 5, u, W, c) := by
  show (if ¬ ((T a).1 < 7 ∨ (T a).1 = 15) then _ else _) = _
  rw [if_neg (fun q => q h), if_pos rfl]
theorem st0_o (h : (T a).1 = 15) (hd : d ≠ 5) : stp T (0, a, d, u, W, c) = (0, a + 1, d + 1, u, wset W (d + 1) (0, 0, 0), c) := by
  show (if ¬ ((T a).1 < 7 ∨ (T a).1 = 15) then _ else _) = _
  rw [if_neg (fun q => q (Or.inr h)), if_neg hd, if_pos h]
theorem st0_p (h : (T a).1 < 7) (hd : d ≠ 5) : stp T (0, a, d, u, W, c) = (1, a + 1, d, u + 1, W, cset c u (T a)) := by
  show (if ¬ ((T a).1 < 7 ∨ (T a).1 = 15) then _ else _) = _
  rw [if_neg (fun q => q (Or.inl h)), if_neg hd, if_neg (by omega)]
theorem st1_0 (h : (W d).1 = 0) : stp T (1, a, d, u, W, c) = (2, a, d, u, W, c) := if_pos h
theorem st1_f (h : (W d).1 ≠ 0) : stp T (1, a, d, u, W, c) = (2, a, d, u + 1, wset W d (0, (W d).2), cset c u ((W d).1, 0)) := if_neg h
theorem st2_y (h : (T a).1 = 7 ∨ (T a).1 = 8) : stp T (2, a, d, u, W, c) = (0, a + 1, d, u, wset W d ((T a).1, (W d).2), c) := if_pos h
theorem st2_n (h : ¬ ((T a).1 = 7 ∨ (T a).1 = 8)) : stp T (2, a, d, u, W, c) = (3, a, d, u, W, c) := if_neg h
theorem st3_0 (h : (W d).2.1 = 0) : stp T (3, a, d, u, W, c) = (4, a, d, u, W, c) := if_pos h
theorem st3_f (h : (W d).2.1 ≠ 0) : stp T (3, a, d, u, W, c) = (5, a, d, u + 1, wset W d ((W d).1, 0, (W d).2.2), cset c u ((W d).2.1, 0)) := if_neg h
theorem st4_y (h : (T a).1 = 9 ∨ (T a).1 = 10) : stp T (4, a, d, u, W, c) = (0, a + 1, d, u, wset W d ((W d).1, (T a).1, (W d).2.2), c) := if_pos h
theorem st4_n (h : ¬ ((T a).1 = 9 ∨ (T a).1 = 10)) : stp T (4, a, d, u, W, c) = (5, a, d, u, W, c) := if_neg h
theorem st5_0 (h : (W d).2.2 = 0) : stp T (5, a, d, u, W, c) = (6, a, d, u, W, c) := if_pos h
theorem st5_f (h : (W d).2.2 ≠ 0) : stp T (5, a, d, u, W, c) = (6, a, d, u + 1, wset W d ((W d).1, (W d).2.1, 0), cset c u ((W d).2.2, 0)) := if_neg h
theorem st6_y (h : (T a).1 = 11) : stp T (6, a, d, u, W, c) = (0, a + 1, d, u, wset W d ((W d).1, (W d).2.1, 11), c) := if_pos h
theorem st6_n (h : ¬ (T a).1 = 11) : stp T (6, a, d, u, W, c) = (7, a, d, u, W, c) := if_neg h
theorem st7_0 : stp T (7, a, 0, u, W, c) = (8, a, 0, u, W, c) := rfl
theorem st7_y (h : (T a).1 = 16) : stp T (7, a, d + 1, u, W, c) = (1, a + 1, d, u, W, c) := by
  simp [stp, h]
theorem st7_n (h : ¬ (T a).1 = 16) : stp T (7, a, d + 1, u, W, c) = (11, a, d + 1, u, W, c) := by
  simp [stp, h]
end
/-! what the machine writes is well formed -/
/-- the stack's height behind n steps from i on, begun with h; none: it went wrong -/
def hrun (C : cS) : Nat → Nat → Nat → Option Nat
  | _, 0, h => some h
  | i, n + 1, h => if (C i).1 < 7 then (if h < 20 then hrun C (i + 1) n (h + 1) else none) else if (C i).1 < 12 ∧ 2 ≤ h then hrun C (i + 1) n (h - 1) else none
theorem hrun_chk {C : cS} : ∀ n i h, hrun C i n h = some 1 → hchk C i n h := by
  intro n
  induction n with
  | zero => intro i h e; exact Option.some.inj e
  | succ n ih =>
    intro i h e
    unfold hrun at e
    unfold hchk
    by_cases h7 : (C i).1 < 7
    · rw [if_pos h7] at e ⊢
      by_cases h20 : h < 20
      · rw [if_pos h20] at e; exact ⟨h20, ih _ _ e⟩
      · rw [if_neg h20] at e; cases e
    · rw [if_neg h7] at e ⊢
      by_cases h12 : (C i).1 < 12 ∧ 2 ≤ h
      · rw [if_pos h12] at e; exact ⟨h12.1, h12.2, ih _ _ e⟩
      · rw [if_neg h12] at e; cases e
theorem hrun_snoc {C : cS} : ∀ n i h x, hrun C i n h = some x → hrun C i (n + 1) h = (if (C (i + n)).1 < 7 then (if x < 20 then some (x + 1) else none) else if (C (i + n)).1 < 12 ∧ 2 ≤ x then some (x - 1) else none) := by
  intro n
  induction n with
  | zero =>
    intro i h x e
    cases e
    rfl
  | succ n ih =>
    intro i h x e
    rw [show i + (n + 1) = (i + 1) + n by omega]
    unfold hrun at e ⊢
    by_cases h7 : (C i).1 < 7
    · rw [if_pos h7] at e ⊢
      by_cases h20 : h < 20
      · rw [if_pos h20] at e ⊢; exact ih _ _ _ e
      · rw [if_neg h20] at e; cases e
    · rw [if_neg h7] at e ⊢
      by_cases h12 : (C i).1 < 12 ∧ 2 ≤ h
      · rw [if_pos h12] at e ⊢; exact ih _ _ _ e
      · rw [if_neg h12] at e; cases e
theorem hrun_c {C C' : cS} : ∀ n i h, (∀ j, i ≤ j → j < i + n → C' j = C j) → hrun C' i n h = hrun C i n h := by
  intro n
  induction n with
  | zero => intro i h e; rfl
  | succ n ih =>
    intro i h e
    unfold hrun
    rw [e i (Nat.le_refl i) (by omega), ih (i + 1) (h + 1) (fun j h1 h2 => e j (by omega) (by omega)), ih (i + 1) (h - 1) (fun j h1 h2 => e j (by omega) (by omega))]
theorem hchk_c {C C' : cS} : ∀ n i h, (∀ j, i ≤ j → j < i + n → C' j = C j) → hchk C i n h → hchk C' i n h := by
  intro n
  induction n with
  | zero => intro i h e q; exact q
  | succ n ih =>
    intro i h e q
    unfold hchk at q ⊢
    rw [e i (Nat.le_refl i) (by omega)]
    split
    · rename_i h7
      rw [if_pos h7] at q
      exact ⟨q.1, ih _ _ (fun j h1 h2 => e j (by omega) (by omega)) q.2⟩
    · rename_i h7
      rw [if_neg h7] at q
      exact ⟨q.1, q.2.1, ih _ _ (fun j h1 h2 => e j (by omega) (by omega)) q.2.2⟩
def w01 (n : Nat) : Nat := if n = 0 then 0 else 1
def wn (x : Nat × Nat × Nat) : Nat := w01 x.1 + w01 x.2.1 + w01 x.2.2
/-- how many wait at the depths below d -/
def pend (W : wS) : Nat → Nat
  | 0 => 0
  | d + 1 => pend W d + wn (W d)
theorem w01_n {n : Nat} (h : n ≠ 0) : w01 n = 1 := if_neg h
theorem w01_z {n : Nat} (h : n = 0) : w01 n = 0 := if_pos h
theorem w01_le (n : Nat) : w01 n ≤ 1 := by unfold w01; split <;> omega
theorem wn_le (x : Nat × Nat × Nat) : wn x ≤ 3 := by
  have := w01_le x.1; have := w01_le x.2.1; have := w01_le x.2.2
  unfold wn; omega
theorem pend_le (W : wS) : ∀ d, pend W d ≤ 3 * d
  | 0 => Nat.le_refl 0
  | d + 1 => by have := pend_le W d; have := wn_le (W d); unfold pend; omega
theorem pend_c {W W' : wS} : ∀ d, (∀ k, k < d → W' k = W k) → pend W' d = pend W d
  | 0, _ => rfl
  | d + 1, h => by unfold pend; rw [pend_c d (fun k hk => h k (by omega)), h d (by omega)]
def okW (x : Nat × Nat × Nat) : Prop := (x.1 = 0 ∨ x.1 = 7 ∨ x.1 = 8) ∧ (x.2.1 = 0 ∨ x.2.1 = 9 ∨ x.2.1 = 10) ∧ (x.2.2 = 0 ∨ x.2.2 = 11)
/-- a number's value is none below 0 -/
def okC (x : Nat × Int32) : Prop := x.1 = 0 → 0 ≤ x.2
def hgt (W : wS) (m d : Nat) : Nat := pend W d + wn (W d) + (if m = 0 then 0 else 1)
/-- the machine's invariant: begun with u0 steps c0 -/
def mInv (u0 : Nat) (c0 : cS) (s : mS) : Prop := match s with
  | (m, _, d, u, W, c) => m ≤ 8 → d ≤ 5 ∧ u0 ≤ u ∧ (∀ j, j < u0 → c j = c0 j) ∧ (∀ j, u0 ≤ j → j < u → okC (c j)) ∧ (∀ k, k ≤ d → okW (W k)) ∧ hrun c u0 (u - u0) 0 = some (hgt W m d) ∧ (2 ≤ m → (W d).1 = 0) ∧ ((m = 4 ∨ 5 ≤ m) → (W d).2.1 = 0) ∧ (6 ≤ m → (W d).2.2 = 0) ∧ (m = 8 → d = 0)
theorem hr_push {c : cS} {u0 u h : Nat} {x : Nat × Int32} (hu : u0 ≤ u) (hr : hrun c u0 (u - u0) 0 = some h) (hx : x.1 < 7) (h20 : h < 20) : hrun (cset c u x) u0 (u + 1 - u0) 0 = some (h + 1) := by
  rw [show u + 1 - u0 = (u - u0) + 1 by omega, hrun_snoc (x := h) _ _ _ (by rw [hrun_c (C := c) _ _ _ (fun j h1 h2 => cset_n (by omega))]; exact hr), show u0 + (u - u0) = u by omega, cset_s, if_pos hx, if_pos h20]
theorem hr_pop {c : cS} {u0 u h : Nat} {x : Nat × Int32} (hu : u0 ≤ u) (hr : hrun c u0 (u - u0) 0 = some h) (hx : ¬ x.1 < 7) (h12 : x.1 < 12) (h2 : 2 ≤ h) : hrun (cset c u x) u0 (u + 1 - u0) 0 = some (h - 1) := by
  rw [show u + 1 - u0 = (u - u0) + 1 by omega, hrun_snoc (x := h) _ _ _ (by rw [hrun_c (C := c) _ _ _ (fun j h1 h2 => cset_n (by omega))]; exact hr), show u0 + (u - u0) = u by omega, cset_s, if_neg hx, if_pos ⟨h12, h2⟩]
/-- the step of a wait that is flushed -/
theorem fl_ok {c c0 : cS} {u0 u : Nat} {x : Nat × Int32} (hu : u0 ≤ u) (h1 : ∀ j, j < u0 → c j = c0 j) (h2 : ∀ j, u0 ≤ j → j < u → okC (c j)) (hx : okC x) : (∀ j, j < u0 → cset c u x j = c0 j) ∧ (∀ j, u0 ≤ j → j < u + 1 → okC (cset c u x j)) := by
  refine ⟨fun j hj => ?_, fun j q1 q2 => ?_⟩
  · rw [cset_n (by omega)]; exact h1 j hj
  · by_cases e : j = u
    · subst e; rw [cset_s]; exact hx
    · rw [cset_n e]; exact h2 j q1 (by omega)
theorem ws_ok {W : wS} {d : Nat} {x : Nat × Nat × Nat} (h : ∀ k, k ≤ d → okW (W k)) (hx : okW x) : ∀ k, k ≤ d → okW (wset W d x k) := by
  intro k hk
  by_cases e : k = d
  · subst e; rw [wset_s]; exact hx
  · rw [wset_n e]; exact h k hk
theorem pd_ws {W : wS} {d : Nat} {x : Nat × Nat × Nat} : pend (wset W d x) d = pend W d := pend_c d (fun k hk => wset_n (by omega))
def tW (t : Nat × Int32) : Prop := t.1 ≤ 19 ∧ (t.1 = 0 → ∃ v, v < 10000 ∧ t.2 = nI v)
theorem tW.ok {t : Nat × Int32} (h : tW t) : okC t := fun q => by
  obtain ⟨v, h1, h2⟩ := h.2 q
  rw [h2]; exact nI_pos' (by omega)
set_option maxHeartbeats 1000000 in
theorem mInv_stp {T : cS} (hT : ∀ a, tW (T a)) {u0 : Nat} {c0 : cS} : ∀ s, mInv u0 c0 s → mInv u0 c0 (stp T s) := by
  rintro ⟨m, a, d, u, W, c⟩ h
  by_cases hm : 8 ≤ m
  · have e : stp T (m, a, d, u, W, c) = (m, a, d, u, W, c) := by
      match m, hm with
      | k + 8, _ => rfl
    rw [e]; exact h
  have hm8 : m ≤ 8 := by omega
  obtain ⟨h1, h2, h3, h4, h5, h6, h7, h8, h9, -⟩ := h hm8
  have hpd := pend_le W d
  have hwd := wn_le (W d)
  have hok := h5 d (Nat.le_refl d)
  match m, hm with
  | 0, _ =>
    by_cases q1 : (T a).1 < 7 ∨ (T a).1 = 15
    · by_cases q5 : d = 5
      · subst q5; rw [st0_l q1]; intro z; omega
      · by_cases q15 : (T a).1 = 15
        · rw [st0_o q15 q5]
          refine fun _ => ⟨by omega, h2, h3, h4, fun k hk => ?_, ?_, fun z => by omega, fun z => by omega, fun z => by omega, fun z => by omega⟩
          · by_cases e : k = d + 1
            · rw [e, wset_s]; exact ⟨Or.inl rfl, Or.inl rfl, Or.inl rfl⟩
            · rw [wset_n e]; exact h5 k (by omega)
          · rw [h6]
            unfold hgt
            rw [wset_s]
            have e1 : pend (wset W (d + 1) (0, 0, 0)) (d + 1) = pend W (d + 1) := pend_c _ (fun k hk => wset_n (by omega))
            rw [e1]
            rfl
        · have q7 : (T a).1 < 7 := by omega
          rw [st0_p q7 q5]
          obtain ⟨g1, g2⟩ := fl_ok h2 h3 h4 (hT a).ok
          refine fun _ => ⟨h1, by omega, g1, g2, h5, ?_, fun z => by omega, fun z => by omega, fun z => by omega, fun z => by omega⟩
          rw [hr_push h2 h6 q7 (by unfold hgt; simp only [if_true]; omega)]
          rfl
    · rw [st0_f q1]; intro z; omega
  | 1, _ =>
    by_cases q : (W d).1 = 0
    · rw [st1_0 q]
      exact fun _ => ⟨h1, h2, h3, h4, h5, h6, fun _ => q, fun z => by omega, fun z => by omega, fun z => by omega⟩
    · rw [st1_f q]
      obtain ⟨g1, g2⟩ := fl_ok (x := ((W d).1, 0)) h2 h3 h4 (fun z => absurd z q)
      refine fun _ => ⟨h1, by omega, g1, g2, ws_ok h5 ⟨Or.inl rfl, hok.2⟩, ?_, fun _ => by rw [wset_s], fun z => by omega, fun z => by omega, fun z => by omega⟩
      rw [hr_pop h2 h6 (by show ¬ (W d).1 < 7; have := hok.1; omega) (by show (W d).1 < 12; have := hok.1; omega) (by unfold hgt wn; rw [w01_n q]; simp; omega)]
      unfold hgt wn
      rw [wset_s, pd_ws]
      show some (pend W d + (w01 (W d).1 + w01 (W d).2.1 + w01 (W d).2.2) + 1 - 1) = some (pend W d + (0 + w01 (W d).2.1 + w01 (W d).2.2) + 1)
      have hw := w01_n q
      congr 1
      omega
  | 2, _ =>
    by_cases q : (T a).1 = 7 ∨ (T a).1 = 8
    · rw [st2_y q]
      have hs := h7 (by omega)
      refine fun _ => ⟨h1, h2, h3, h4, ws_ok h5 ⟨by show (T a).1 = 0 ∨ _; omega, hok.2⟩, ?_, fun z => by omega, fun z => by omega, fun z => by omega, fun z => by omega⟩
      rw [h6]
      unfold hgt wn
      rw [wset_s, pd_ws]
      show some (pend W d + (w01 (W d).1 + w01 (W d).2.1 + w01 (W d).2.2) + 1) = some (pend W d + (w01 (T a).1 + w01 (W d).2.1 + w01 (W d).2.2) + 0)
      have hw := w01_n (n := (T a).1) (by omega)
      have hz := w01_z hs
      congr 1
      omega
    · rw [st2_n q]
      exact fun _ => ⟨h1, h2, h3, h4, h5, h6, fun _ => h7 (by omega), fun z => by omega, fun z => by omega, fun z => by omega⟩
  | 3, _ =>
    have hs := h7 (by omega)
    by_cases q : (W d).2.1 = 0
    · rw [st3_0 q]
      exact fun _ => ⟨h1, h2, h3, h4, h5, h6, fun _ => hs, fun _ => q, fun z => by omega, fun z => by omega⟩
    · rw [st3_f q]
      obtain ⟨g1, g2⟩ := fl_ok (x := ((W d).2.1, 0)) h2 h3 h4 (fun z => absurd z q)
      refine fun _ => ⟨h1, by omega, g1, g2, ws_ok h5 ⟨hok.1, Or.inl rfl, hok.2.2⟩, ?_, fun _ => by rw [wset_s]; exact hs, fun _ => by rw [wset_s], fun z => by omega, fun z => by omega⟩
      rw [hr_pop h2 h6 (by show ¬ (W d).2.1 < 7; have := hok.2.1; omega) (by show (W d).2.1 < 12; have := hok.2.1; omega) (by unfold hgt wn; rw [w01_n q]; simp; omega)]
      unfold hgt wn
      rw [wset_s, pd_ws]
      show some (pend W d + (w01 (W d).1 + w01 (W d).2.1 + w01 (W d).2.2) + 1 - 1) = some (pend W d + (w01 (W d).1 + 0 + w01 (W d).2.2) + 1)
      have hw := w01_n q
      congr 1
      omega
  | 4, _ =>
    have hs := h7 (by omega)
    have hg := h8 (by omega)
    by_cases q : (T a).1 = 9 ∨ (T a).1 = 10
    · rw [st4_y q]
      refine fun _ => ⟨h1, h2, h3, h4, ws_ok h5 ⟨hok.1, Or.inr q, hok.2.2⟩, ?_, fun z => by omega, fun z => by omega, fun z => by omega, fun z => by omega⟩
      rw [h6]
      unfold hgt wn
      rw [wset_s, pd_ws]
      show some (pend W d + (w01 (W d).1 + w01 (W d).2.1 + w01 (W d).2.2) + 1) = some (pend W d + (w01 (W d).1 + w01 (T a).1 + w01 (W d).2.2) + 0)
      have hw := w01_n (n := (T a).1) (by omega)
      have hz := w01_z hg
      congr 1
      omega
    · rw [st4_n q]
      exact fun _ => ⟨h1, h2, h3, h4, h5, h6, fun _ => hs, fun _ => hg, fun z => by omega, fun z => by omega⟩
  | 5, _ =>
    have hs := h7 (by omega)
    have hg := h8 (by omega)
    by_cases q : (W d).2.2 = 0
    · rw [st5_0 q]
      exact fun _ => ⟨h1, h2, h3, h4, h5, h6, fun _ => hs, fun _ => hg, fun _ => q, fun z => by omega⟩
    · rw [st5_f q]
      obtain ⟨g1, g2⟩ := fl_ok (x := ((W d).2.2, 0)) h2 h3 h4 (fun z => absurd z q)
      refine fun _ => ⟨h1, by omega, g1, g2, ws_ok h5 ⟨hok.1, hok.2.1, Or.inl rfl⟩, ?_, fun _ => by rw [wset_s]; exact hs, fun _ => by rw [wset_s]; exact hg, fun _ => by rw [wset_s], fun z => by omega⟩
      rw [hr_pop h2 h6 (by show ¬ (W d).2.2 < 7; have := hok.2.2; omega) (by show (W d).2.2 < 12; have := hok.2.2; omega) (by unfold hgt wn; rw [w01_n q]; simp; omega)]
      unfold hgt wn
      rw [wset_s, pd_ws]
      show some (pend W d + (w01 (W d).1 + w01 (W d).2.1 + w01 (W d).2.2) + 1 - 1) = some (pend W d + (w01 (W d).1 + w01 (W d).2.1 + 0) + 1)
      have hw := w01_n q
      congr 1
      omega
  | 6, _ =>
    have hs := h7 (by omega)
    have hg := h8 (by omega)
    have ha := h9 (by omega)
    by_cases q : (T a).1 = 11
    · rw [st6_y q]
      refine fun _ => ⟨h1, h2, h3, h4, ws_ok h5 ⟨hok.1, hok.2.1, Or.inr rfl⟩, ?_, fun z => by omega, fun z => by omega, fun z => by omega, fun z => by omega⟩
      rw [h6]
      unfold hgt wn
      rw [wset_s, pd_ws]
      show some (pend W d + (w01 (W d).1 + w01 (W d).2.1 + w01 (W d).2.2) + 1) = some (pend W d + (w01 (W d).1 + w01 (W d).2.1 + 1) + 0)
      have hz := w01_z ha
      congr 1
      omega
    · rw [st6_n q]
      exact fun _ => ⟨h1, h2, h3, h4, h5, h6, fun _ => hs, fun _ => hg, fun _ => ha, fun z => by omega⟩
  | 7, _ =>
    have hs := h7 (by omega)
    have hg := h8 (by omega)
    have ha := h9 (by omega)
    match d with
    | 0 => exact fun _ => ⟨h1, h2, h3, h4, h5, h6, fun _ => hs, fun _ => hg, fun _ => ha, fun _ => rfl⟩
    | d + 1 =>
      by_cases q : (T a).1 = 16
      · rw [st7_y q]
        refine fun _ => ⟨by omega, h2, h3, h4, fun k hk => h5 k (by omega), ?_, fun z => by omega, fun z => by omega, fun z => by omega, fun z => by omega⟩
        rw [h6]
        unfold hgt
        show some (pend W d + wn (W d) + wn (W (d + 1)) + 1) = some (pend W d + wn (W d) + 1)
        have e : wn (W (d + 1)) = 0 := by unfold wn; rw [w01_z hs, w01_z hg, w01_z ha]
        rw [e]
      · rw [st7_n q]; intro z; omega
  | k + 8, hm => exact absurd (Nat.le_add_left 8 k) hm
theorem mInv_run {T : cS} (hT : ∀ a, tW (T a)) {u0 : Nat} {c0 : cS} {s s' : mS} (h : Run T s s') (hi : mInv u0 c0 s) : mInv u0 c0 s' := by
  obtain ⟨n, rfl⟩ := h
  induction n generalizing s with
  | zero => exact hi
  | succ n ih => exact ih (mInv_stp hT _ hi)
/-- a whole test: its steps are well formed -/
theorem test_ok {T : cS} (hT : ∀ a, tW (T a)) {a a' u u' d' : Nat} {W W' : wS} {c c' : cS} (hW : W 0 = (0, 0, 0)) (h : Run T (0, a, 0, u, W, c) (8, a', d', u', W', c')) : u ≤ u' ∧ (∀ j, j < u → c' j = c j) ∧ (∀ j, u ≤ j → j < u' → okC (c' j)) ∧ hchk c' u (u' - u) 0 := by
  have h0 : mInv u c (0, a, 0, u, W, c) := fun _ => ⟨by omega, Nat.le_refl u, fun _ _ => rfl, fun j h1 h2 => by omega, fun k hk => by rw [show k = 0 by omega, hW]; exact ⟨Or.inl rfl, Or.inl rfl, Or.inl rfl⟩, by rw [Nat.sub_self]; unfold hgt; rw [hW]; rfl, fun z => by omega, fun z => by omega, fun z => by omega, fun z => by omega⟩
  obtain ⟨g1, g2, g3, g4, g5, g6, g7, g8, g9, g10⟩ := mInv_run hT h h0 (Nat.le_refl 8)
  have e := g10 rfl
  subst e
  refine ⟨g2, g3, g4, hrun_chk _ _ _ ?_⟩
  rw [g6]
  unfold hgt wn
  rw [w01_z (g7 (by omega)), w01_z (g8 (by omega)), w01_z (g9 (by omega))]
  rfl
/-- the tokens of a text -/
def tkW (q : kS) : Prop := 1 ≤ q.1 ∧ q.1 ≤ 601 ∧ (q.2.1 (q.1 - 1)).1 = 18 ∧ (∀ i, i < q.1 - 1 → (q.2.1 i).1 ≠ 18) ∧ (∀ i, tW (q.2.1 i)) ∧ ∀ i, i < q.1 → q.2.2 i ≤ 600
theorem stv_num {t : Nat × Int32} (h : tW t) : ¬ stv t < 0 ↔ t.1 = 0 := by
  obtain ⟨n, x⟩ := t
  cases n with
  | zero =>
    obtain ⟨v, h1, h2⟩ := h.2 rfl
    refine ⟨fun _ => rfl, fun _ => ?_⟩
    show ¬ x < 0
    rw [show x = nI v from h2]; exact nI_pos (by omega)
  | succ n =>
    refine ⟨fun q => absurd ?_ q, fun q => absurd q (by omega)⟩
    exact tk_neg n (by have := h.1; simp only at this; omega)
theorem stv_is {t : Nat × Int32} (h : tW t) {n : Nat} (hn : n < 19) : stv t = tk n ↔ t.1 = n + 1 := by
  obtain ⟨m, x⟩ := t
  cases m with
  | zero =>
    refine ⟨fun q => ?_, fun q => absurd q (by omega)⟩
    have h0 := (stv_num h).mpr rfl
    rw [q] at h0
    exact absurd (tk_neg n (by omega)) h0
  | succ m =>
    have hm : m < 19 := by have := h.1; simp only at this; omega
    refine ⟨fun q => ?_, fun q => ?_⟩
    · have := (by decide : ∀ m, m < 19 → ∀ n, n < 19 → tk m = tk n → m = n) m hm n hn q
      omega
    · have : m = n := by simp only at q; omega
      rw [← this]; rfl
theorem stv_part {t : Nat × Int32} (h : tW t) : (-6 : Int32) ≤ stv t ↔ t.1 < 7 := by
  obtain ⟨m, x⟩ := t
  cases m with
  | zero =>
    refine ⟨fun _ => by omega, fun _ => ?_⟩
    have h0 := (stv_num h).mpr rfl
    exact Int32.le_trans (by decide) (Int32.not_lt.mp h0)
  | succ m =>
    have hm : m < 19 := by have := h.1; simp only at this; omega
    exact (by decide : ∀ m, m < 19 → ((-6 : Int32) ≤ tk m ↔ m + 1 < 7)) m hm

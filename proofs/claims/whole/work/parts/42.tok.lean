/-! the signs of a tape as tokens: (0, v) the number v, (n + 1, _) the class's token -1 - n -/
abbrev isLet (x : Int32) : Prop := ¬ x < 97 ∧ ¬ 122 < x
abbrev isDig (x : Int32) : Prop := ¬ x < 48 ∧ ¬ 57 < x
abbrev isBlk (x : Int32) : Prop := x = 10 ∨ x = 32
def runE (f : Nat → Int32) (p : Int32 → Bool) : Nat → Nat → Nat
  | 0, k => k
  | r + 1, k => if p (f k) then runE f p r (k + 1) else k
def letB (x : Int32) : Bool := decide (isLet x)
def digB (x : Int32) : Bool := decide (isDig x)
/-- where the run that begins at a ends -/
def eor (s : tS) (a : Nat) : Nat := if isLet (s.2 a) then runE s.2 letB (s.1 - (a + 1)) (a + 1) else if isDig (s.2 a) then runE s.2 digB (s.1 - (a + 1)) (a + 1) else a + 1
abbrev mt (f : Nat → Int32) (a l i : Nat) : Prop := l = glen.getD i 0 ∧ ∀ j, j < l → f (a + j) = (gbyt.getD i []).getD j 0
def wtk (f : Nat → Int32) (a l : Nat) : Nat := if mt f a l 0 then 12 else if mt f a l 1 then 13 else if mt f a l 2 then 14 else if mt f a l 3 then 11 else if mt f a l 4 then 1 else if mt f a l 5 then 2 else if mt f a l 6 then 3 else if mt f a l 7 then 4 else if mt f a l 8 then 5 else if mt f a l 9 then 6 else 19
def num (f : Nat → Int32) (a : Nat) : Nat → Int32
  | 0 => 0
  | l + 1 => num f a l * 10 + (f (a + l) - 48)
def stk (x : Int32) : Nat := if x = 40 then 15 else if x = 41 then 16 else if x = 60 then 9 else if x = 61 then 10 else if x = 43 then 7 else if x = 45 then 8 else if x = 59 then 17 else 19
def tokC (s : tS) (a e : Nat) : Nat × Int32 := if isLet (s.2 a) then (wtk s.2 a (e - a), 0) else if isDig (s.2 a) then (if 4 < e - a then (19, 0) else (0, num s.2 a (e - a))) else (stk (s.2 a), 0)
/-- tokens so far: how many, which, where -/
abbrev kS : Type := Nat × (Nat → Nat × Int32) × (Nat → Nat)
def kpush (t : Nat × Int32) (p : Nat) (q : kS) : kS := (q.1 + 1, (fun i => if i = q.1 then t else q.2.1 i), fun i => if i = q.1 then p else q.2.2 i)
def scn (s : tS) : Nat → Nat → kS → kS
  | 0, _, q => q
  | r + 1, a, q => if a < s.1 then scn s r (eor s a) (if isBlk (s.2 a) then q else kpush (tokC s a (eor s a)) a q) else q
def toks (s : tS) : kS := kpush (18, 0) s.1 (scn s s.1 0 (0, (fun _ => (18, 0)), fun _ => 0))
theorem runE_ge (f : Nat → Int32) (p : Int32 → Bool) : ∀ r k, k ≤ runE f p r k
  | 0, k => Nat.le_refl k
  | r + 1, k => by
    unfold runE
    split
    · exact Nat.le_trans (Nat.le_succ k) (runE_ge f p r (k + 1))
    · exact Nat.le_refl k
theorem runE_le (f : Nat → Int32) (p : Int32 → Bool) : ∀ r k, runE f p r k ≤ k + r
  | 0, k => Nat.le_refl k
  | r + 1, k => by
    unfold runE
    split
    · have := runE_le f p r (k + 1); omega
    · omega
theorem runE_in (f : Nat → Int32) (p : Int32 → Bool) : ∀ r k j, k ≤ j → j < runE f p r k → p (f j) = true
  | 0, k, j, h1, h2 => by unfold runE at h2; omega
  | r + 1, k, j, h1, h2 => by
    unfold runE at h2
    by_cases h : p (f k) = true
    · rw [if_pos h] at h2
      by_cases e : j = k
      · rw [e]; exact h
      · exact runE_in f p r (k + 1) j (by omega) h2
    · rw [if_neg h] at h2; omega
theorem eor_lt (s : tS) (a : Nat) : a < eor s a := by
  unfold eor
  split
  · exact Nat.lt_of_lt_of_le (Nat.lt_succ_self a) (runE_ge _ _ _ _)
  · split
    · exact Nat.lt_of_lt_of_le (Nat.lt_succ_self a) (runE_ge _ _ _ _)
    · omega
theorem eor_le {s : tS} {a : Nat} (h : a < s.1) : eor s a ≤ s.1 := by
  unfold eor
  split
  · have := runE_le s.2 letB (s.1 - (a + 1)) (a + 1); omega
  · split
    · have := runE_le s.2 digB (s.1 - (a + 1)) (a + 1); omega
    · omega
theorem eor_let {s : tS} {a j : Nat} (h : isLet (s.2 a)) (h1 : a ≤ j) (h2 : j < eor s a) : isLet (s.2 j) := by
  unfold eor at h2
  rw [if_pos h] at h2
  by_cases e : j = a
  · rw [e]; exact h
  · exact of_decide_eq_true (runE_in s.2 letB _ _ j (by omega) h2)
theorem eor_dig {s : tS} {a j : Nat} (h0 : ¬ isLet (s.2 a)) (h : isDig (s.2 a)) (h1 : a ≤ j) (h2 : j < eor s a) : isDig (s.2 j) := by
  unfold eor at h2
  rw [if_neg h0, if_pos h] at h2
  by_cases e : j = a
  · rw [e]; exact h
  · exact of_decide_eq_true (runE_in s.2 digB _ _ j (by omega) h2)
/-! words by their numbers in base 37 -/
def hN (c : Nat → Nat) (a : Nat) : Nat → Nat
  | 0 => 0
  | l + 1 => 37 * hN c a l + (c (a + l) - 96)
theorem hN_inj {c d : Nat → Nat} {a b : Nat} : ∀ l m, (∀ j, j < l → 97 ≤ c (a + j) ∧ c (a + j) ≤ 122) → (∀ j, j < m → 97 ≤ d (b + j) ∧ d (b + j) ≤ 122) → hN c a l = hN d b m → l = m ∧ ∀ j, j < l → c (a + j) = d (b + j) := by
  intro l
  induction l with
  | zero =>
    intro m h1 h2 h
    cases m with
    | zero => exact ⟨rfl, fun j hj => absurd hj (Nat.not_lt_zero j)⟩
    | succ m =>
      have := h2 m (Nat.lt_succ_self m)
      unfold hN at h
      omega
  | succ l ih =>
    intro m h1 h2 h
    have g1 := h1 l (Nat.lt_succ_self l)
    cases m with
    | zero => unfold hN at h; omega
    | succ m =>
      have g2 := h2 m (Nat.lt_succ_self m)
      have e1 : 37 * hN c a l + (c (a + l) - 96) = 37 * hN d b m + (d (b + m) - 96) := h
      have e2 : hN c a l = hN d b m := by omega
      have e3 : c (a + l) = d (b + m) := by omega
      obtain ⟨q1, q2⟩ := ih m (fun j hj => h1 j (by omega)) (fun j hj => h2 j (by omega)) e2
      subst q1
      refine ⟨rfl, fun j hj => ?_⟩
      by_cases e : j = l
      · rw [e]; exact e3
      · exact q2 j (by omega)
theorem hN_lt {c : Nat → Nat} {a : Nat} : ∀ l, (∀ j, j < l → c (a + j) ≤ 122) → hN c a l < 37 ^ l
  | 0, _ => Nat.zero_lt_one
  | l + 1, h => by
    have := hN_lt l (fun j hj => h j (by omega))
    have g := h l (Nat.lt_succ_self l)
    rw [Nat.pow_succ]
    unfold hN
    omega
def hsh (f : Nat → Int32) (a : Nat) : Nat → Int64
  | 0 => 0
  | l + 1 => 37 * hsh f a l + (f (a + l) - 96).toInt64
theorem nI_i64 {n : Nat} (h : n < 2147483648) : (nI n).toInt64 = Int64.ofNat n := by
  apply Int64.toInt_inj.mp
  rw [Int32.toInt_toInt64, nI_toInt h, Int64.toInt_ofNat_of_lt (by omega)]
theorem let_nat {x : Int32} (h : isLet x) : 97 ≤ x.toNatClampNeg ∧ x.toNatClampNeg ≤ 122 ∧ x = nI x.toNatClampNeg := by
  have h0 : ¬ x < 0 := fun q => h.1 (Int32.lt_trans q (by decide))
  have e := nI_self h0
  have b : x.toNatClampNeg < 2147483648 := by
    obtain ⟨j, hj, rfl⟩ := nI_of h0
    rw [nI_clamp hj]; exact hj
  obtain ⟨h1, h2⟩ := h
  rw [e] at h1 h2
  have g1 := nlt_f (a := x.toNatClampNeg) (b := 97) b (by omega) h1
  have g2 := nlt_f (a := 122) (b := x.toNatClampNeg) (by omega) b h2
  exact ⟨g1, g2, e⟩
theorem dig_nat {x : Int32} (h : isDig x) : 48 ≤ x.toNatClampNeg ∧ x.toNatClampNeg ≤ 57 ∧ x = nI x.toNatClampNeg := by
  have h0 : ¬ x < 0 := fun q => h.1 (Int32.lt_trans q (by decide))
  have e := nI_self h0
  have b : x.toNatClampNeg < 2147483648 := by
    obtain ⟨j, hj, rfl⟩ := nI_of h0
    rw [nI_clamp hj]; exact hj
  obtain ⟨h1, h2⟩ := h
  rw [e] at h1 h2
  have g1 := nlt_f (a := x.toNatClampNeg) (b := 48) b (by omega) h1
  have g2 := nlt_f (a := 57) (b := x.toNatClampNeg) (by omega) b h2
  exact ⟨g1, g2, e⟩
theorem hsh_N {f : Nat → Int32} {a : Nat} : ∀ l, (∀ j, j < l → isLet (f (a + j))) → hsh f a l = Int64.ofNat (hN (fun j => (f j).toNatClampNeg) a l)
  | 0, _ => rfl
  | l + 1, h => by
    have ih := hsh_N l (fun j hj => h j (by omega))
    obtain ⟨g1, g2, g3⟩ := let_nat (h l (Nat.lt_succ_self l))
    unfold hsh hN
    rw [ih]
    have e : f (a + l) - 96 = nI ((f (a + l)).toNatClampNeg - 96) := by
      have := pk_sub (a := (f (a + l)).toNatClampNeg) (b := 96) (by omega)
      rw [← g3] at this
      exact this
    rw [e, nI_i64 (by omega), Int64.ofNat_add, Int64.ofNat_mul]
    rfl
/-- the words' numbers, by their tokens -/
def wvN (c : Nat) : Nat := [0, 5538, 1119656265, 148136142, 204925, 333123, 6167, 0, 0, 0, 0, 1891, 412110, 4003679, 1176170].getD c 0
def wix (c : Nat) : Nat := [0, 4, 5, 6, 7, 8, 9, 0, 0, 0, 0, 3, 0, 1, 2].getD c 0
abbrev isW (c : Nat) : Prop := (1 ≤ c ∧ c ≤ 6) ∨ (11 ≤ c ∧ c ≤ 14)
abbrev isSg (c : Nat) : Prop := (7 ≤ c ∧ c ≤ 10) ∨ (15 ≤ c ∧ c ≤ 17)
def wval (c : Nat) : Int64 := Int64.ofNat (wvN c)
def svN (c : Nat) : Nat := [0, 0, 0, 0, 0, 0, 0, 43, 45, 60, 61, 0, 0, 0, 0, 40, 41, 59].getD c 0
def sval (c : Nat) : Int64 := Int64.ofNat (svN c)
def wcd (i : Nat) : Nat := [12, 13, 14, 11, 1, 2, 3, 4, 5, 6].getD i 0
theorem wcd_in : ∀ i, i < 10 → isW (wcd i) ∧ wix (wcd i) = i := by decide
theorem isW_of : ∀ c, isW c → wix c < 10 ∧ wcd (wix c) = c := fun c h => (by decide : ∀ c, c < 15 → isW c → wix c < 10 ∧ wcd (wix c) = c) c (by rcases h with h | h <;> omega) h
theorem wvN_is : ∀ i, i < 10 → hN (fun j => ((gbyt.getD i []).getD j 0).toNatClampNeg) 0 (glen.getD i 0) = wvN (wcd i) := by decide
theorem byt_let : ∀ i, i < 10 → ∀ j, j < 6 → j < glen.getD i 0 → isLet ((gbyt.getD i []).getD j 0) := by decide
theorem glen_le : ∀ i, i < 10 → glen.getD i 0 ≤ 6 := by decide
theorem wvN_lt : ∀ i, i < 10 → wvN (wcd i) < 2147483648 := by decide
theorem ofNat_inj64 {a b : Nat} (ha : a < 2 ^ 63) (hb : b < 2 ^ 63) (h : Int64.ofNat a = Int64.ofNat b) : a = b := by
  have := congrArg Int64.toInt h
  rw [Int64.toInt_ofNat_of_lt ha, Int64.toInt_ofNat_of_lt hb] at this
  omega
theorem hsh_w {f : Nat → Int32} {a l i : Nat} (hl : l ≤ 8) (h : ∀ j, j < l → isLet (f (a + j))) (hi : i < 10) : hsh f a l = wval (wcd i) ↔ mt f a l i := by
  have hlt : ∀ j, j < l → 97 ≤ (f (a + j)).toNatClampNeg ∧ (f (a + j)).toNatClampNeg ≤ 122 := fun j hj => ⟨(let_nat (h j hj)).1, (let_nat (h j hj)).2.1⟩
  have h6 := glen_le i hi
  have hw : ∀ j, j < glen.getD i 0 → 97 ≤ ((gbyt.getD i []).getD (0 + j) 0).toNatClampNeg ∧ ((gbyt.getD i []).getD (0 + j) 0).toNatClampNeg ≤ 122 := fun j hj => by
    rw [Nat.zero_add]
    exact ⟨(let_nat (byt_let i hi j (by omega) hj)).1, (let_nat (byt_let i hi j (by omega) hj)).2.1⟩
  have hb : hN (fun j => (f j).toNatClampNeg) a l < 37 ^ l := hN_lt l (fun j hj => (hlt j hj).2)
  have hb2 : 37 ^ l ≤ 37 ^ 8 := Nat.pow_le_pow_right (by decide) hl
  rw [hsh_N l h]
  constructor
  · intro q
    have e := ofNat_inj64 (by have : (37 : Nat) ^ 8 < 2 ^ 63 := by decide
                              omega) (by have := wvN_lt i hi; omega) q
    rw [← wvN_is i hi] at e
    obtain ⟨q1, q2⟩ := hN_inj l _ hlt hw e
    refine ⟨q1, fun j hj => ?_⟩
    have := q2 j hj
    rw [(let_nat (h j hj)).2.2, (let_nat (byt_let i hi j (by omega) (by omega))).2.2]
    simp only [Nat.zero_add] at this
    rw [this]
  · rintro ⟨q1, q2⟩
    unfold wval
    rw [← wvN_is i hi, ← q1]
    congr 1
    have hc : ∀ m, m ≤ l → hN (fun j => (f j).toNatClampNeg) a m = hN (fun j => ((gbyt.getD i []).getD j 0).toNatClampNeg) 0 m := by
      intro m
      induction m with
      | zero => intro _; rfl
      | succ m ih =>
        intro hm
        unfold hN
        rw [ih (by omega), q2 m (by omega), Nat.zero_add]
    exact hc l (Nat.le_refl l)
theorem mt_uniq {f : Nat → Int32} {a l i j : Nat} (hl : l ≤ 8) (h : ∀ j, j < l → isLet (f (a + j))) (hi : i < 10) (hj : j < 10) (h1 : mt f a l i) (h2 : mt f a l j) : i = j := by
  have e1 := (hsh_w hl h hi).mpr h1
  have e2 := (hsh_w hl h hj).mpr h2
  have e := ofNat_inj64 (by have := wvN_lt i hi; omega) (by have := wvN_lt j hj; omega) (e1.symm.trans e2)
  exact (by decide : ∀ i, i < 10 → ∀ j, j < 10 → wvN (wcd i) = wvN (wcd j) → i = j) i hi j hj e
/-- a word's token: that of the word it reads, or 19 -/
theorem wtk_is {f : Nat → Int32} {a l : Nat} : (∃ i, i < 10 ∧ mt f a l i ∧ wtk f a l = wcd i) ∨ ((∀ i, i < 10 → ¬ mt f a l i) ∧ wtk f a l = 19) := by
  unfold wtk
  by_cases h0 : mt f a l 0
  · exact Or.inl ⟨0, by decide, h0, by rw [if_pos h0]; rfl⟩
  by_cases h1 : mt f a l 1
  · exact Or.inl ⟨1, by decide, h1, by rw [if_neg h0, if_pos h1]; rfl⟩
  by_cases h2 : mt f a l 2
  · exact Or.inl ⟨2, by decide, h2, by rw [if_neg h0, if_neg h1, if_pos h2]; rfl⟩
  by_cases h3 : mt f a l 3
  · exact Or.inl ⟨3, by decide, h3, by rw [if_neg h0, if_neg h1, if_neg h2, if_pos h3]; rfl⟩
  by_cases h4 : mt f a l 4
  · exact Or.inl ⟨4, by decide, h4, by rw [if_neg h0, if_neg h1, if_neg h2, if_neg h3, if_pos h4]; rfl⟩
  by_cases h5 : mt f a l 5
  · exact Or.inl ⟨5, by decide, h5, by rw [if_neg h0, if_neg h1, if_neg h2, if_neg h3, if_neg h4, if_pos h5]; rfl⟩
  by_cases h6 : mt f a l 6
  · exact Or.inl ⟨6, by decide, h6, by rw [if_neg h0, if_neg h1, if_neg h2, if_neg h3, if_neg h4, if_neg h5, if_pos h6]; rfl⟩
  by_cases h7 : mt f a l 7
  · exact Or.inl ⟨7, by decide, h7, by rw [if_neg h0, if_neg h1, if_neg h2, if_neg h3, if_neg h4, if_neg h5, if_neg h6, if_pos h7]; rfl⟩
  by_cases h8 : mt f a l 8
  · exact Or.inl ⟨8, by decide, h8, by rw [if_neg h0, if_neg h1, if_neg h2, if_neg h3, if_neg h4, if_neg h5, if_neg h6, if_neg h7, if_pos h8]; rfl⟩
  by_cases h9 : mt f a l 9
  · exact Or.inl ⟨9, by decide, h9, by rw [if_neg h0, if_neg h1, if_neg h2, if_neg h3, if_neg h4, if_neg h5, if_neg h6, if_neg h7, if_neg h8, if_pos h9]; rfl⟩
  refine Or.inr ⟨fun i hi => ?_, by rw [if_neg h0, if_neg h1, if_neg h2, if_neg h3, if_neg h4, if_neg h5, if_neg h6, if_neg h7, if_neg h8, if_neg h9]⟩
  rcases (show i = 0 ∨ i = 1 ∨ i = 2 ∨ i = 3 ∨ i = 4 ∨ i = 5 ∨ i = 6 ∨ i = 7 ∨ i = 8 ∨ i = 9 by omega) with rfl | rfl | rfl | rfl | rfl | rfl | rfl | rfl | rfl | rfl <;> assumption
/-! numbers -/
def nuN (c : Nat → Nat) (a : Nat) : Nat → Nat
  | 0 => 0
  | l + 1 => nuN c a l * 10 + (c (a + l) - 48)
def dgs (f : Nat → Int32) (a : Nat) : Nat → Int64
  | 0 => 0
  | l + 1 => 10 * dgs f a l + (f (a + l)).toInt64 - 48
theorem nuN_lt {c : Nat → Nat} {a : Nat} : ∀ l, (∀ j, j < l → c (a + j) ≤ 57) → nuN c a l < 10 ^ l
  | 0, _ => Nat.zero_lt_one
  | l + 1, h => by
    have := nuN_lt l (fun j hj => h j (by omega))
    have g := h l (Nat.lt_succ_self l)
    rw [Nat.pow_succ]
    unfold nuN
    omega
theorem num_N {f : Nat → Int32} {a : Nat} : ∀ l, (∀ j, j < l → isDig (f (a + j))) → num f a l = nI (nuN (fun j => (f j).toNatClampNeg) a l)
  | 0, _ => rfl
  | l + 1, h => by
    have ih := num_N l (fun j hj => h j (by omega))
    obtain ⟨g1, g2, g3⟩ := dig_nat (h l (Nat.lt_succ_self l))
    unfold num nuN
    rw [ih]
    have e : f (a + l) - 48 = nI ((f (a + l)).toNatClampNeg - 48) := by
      have := pk_sub (a := (f (a + l)).toNatClampNeg) (b := 48) (by omega)
      rw [← g3] at this
      exact this
    rw [e, show (10 : Int32) = nI 10 from rfl, pk_mul, nI_add]
theorem sub48 {c : Nat} (h : 48 ≤ c) : Int64.ofNat c - 48 = Int64.ofNat (c - 48) := by
  have e : Int64.ofNat c = Int64.ofNat (c - 48) + 48 := by
    rw [show (48 : Int64) = Int64.ofNat 48 from rfl, ← Int64.ofNat_add, Nat.sub_add_cancel h]
  rw [e, Int64.sub_eq_add_neg, Int64.add_assoc, Int64.add_right_neg, Int64.add_zero]
theorem dgs_N {f : Nat → Int32} {a : Nat} : ∀ l, (∀ j, j < l → isDig (f (a + j))) → dgs f a l = Int64.ofNat (nuN (fun j => (f j).toNatClampNeg) a l)
  | 0, _ => rfl
  | l + 1, h => by
    have ih := dgs_N l (fun j hj => h j (by omega))
    obtain ⟨g1, g2, g3⟩ := dig_nat (h l (Nat.lt_succ_self l))
    unfold dgs nuN
    rw [ih, g3, nI_i64 (by omega), nI_clamp (by omega), Int64.sub_eq_add_neg, Int64.add_assoc, ← Int64.sub_eq_add_neg, sub48 g1, Int64.ofNat_add, Nat.mul_comm, Int64.ofNat_mul]
    rfl
theorem num_ok {f : Nat → Int32} {a l : Nat} (hl : l ≤ 4) (h : ∀ j, j < l → isDig (f (a + j))) : ∃ v, v < 10000 ∧ num f a l = nI v ∧ dgs f a l = (num f a l).toInt64 := by
  have hb := nuN_lt (c := fun j => (f j).toNatClampNeg) (a := a) l (fun j hj => (dig_nat (h j hj)).2.1)
  have hb2 : 10 ^ l ≤ 10 ^ 4 := Nat.pow_le_pow_right (by decide) hl
  refine ⟨_, by omega, num_N l h, ?_⟩
  rw [dgs_N l h, num_N l h, nI_i64 (by omega)]
/-- a token as the model has it: sort and value -/
def tokR (t : Nat × Int32) (so : Int32) (va : Int64) : Prop :=
  (t.1 = 0 ∧ so = 2 ∧ va = t.2.toInt64 ∧ ∃ v, v < 10000 ∧ t.2 = nI v) ∨ (isW t.1 ∧ so = 1 ∧ va = wval t.1) ∨ (isSg t.1 ∧ so = 3 ∧ va = sval t.1) ∨ (t.1 = 18 ∧ so = 0) ∨ (t.1 = 19 ∧ (so = 4 ∨ (so = 1 ∧ ∀ c, isW c → va ≠ wval c)))

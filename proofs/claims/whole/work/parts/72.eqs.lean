/-! answers that are alike -/
theorem nI_div {a b : Nat} (ha : a < 2147483648) (hb : b < 2147483648) : nI a / nI b = nI (a / b) := by
  apply Int32.toInt_inj.mp
  have h1 : a / b ≤ a := Nat.div_le_self a b
  rw [Int32.toInt_div, nI_toInt ha, nI_toInt hb, nI_toInt (by omega)]
  have e : (a : Int).tdiv (b : Int) = ((a / b : Nat) : Int) := (Int.ofNat_tdiv a b).symm
  rw [e]
  clear e
  revert h1
  generalize a / b = q
  intro h1
  exact Int.bmod_eq_of_le (by omega) (by omega)
def lI (n : Nat) : Int64 := Int64.ofNat n
theorem lI_toInt {n : Nat} (h : n < 9223372036854775808) : (lI n).toInt = n := Int64.toInt_ofNat_of_lt h
theorem lI_of {n : Nat} (h : n < 2147483648) : (nI n).toInt64 = lI n := nI_i64 h
theorem lI_mul (a b : Nat) : lI a * lI b = lI (a * b) := (Int64.ofNat_mul a b).symm
theorem lI_add (a b : Nat) : lI a + lI b = lI (a + b) := (Int64.ofNat_add a b).symm
theorem lI_div {a b : Nat} (ha : a < 9223372036854775808) (hb : b < 9223372036854775808) : lI a / lI b = lI (a / b) := by
  apply Int64.toInt_inj.mp
  have h1 : a / b ≤ a := Nat.div_le_self a b
  rw [Int64.toInt_div, lI_toInt ha, lI_toInt hb, lI_toInt (by omega)]
  have e : (a : Int).tdiv (b : Int) = ((a / b : Nat) : Int) := (Int.ofNat_tdiv a b).symm
  rw [e]
  clear e
  revert h1
  generalize a / b = q
  intro h1
  exact Int.bmod_eq_of_le (by omega) (by omega)
theorem lI_32 {n : Nat} (h : n < 2147483648) : (lI n).toInt32 = nI n := by
  rw [← lI_of h, i32_64]
theorem nI_le0 {n : Nat} (h : n < 2147483648) : nI n ≤ 0 ↔ n = 0 := by
  constructor
  · intro z
    have := nle_t (a := n) (b := 0) h (by omega) z
    omega
  · rintro rfl; exact Int32.le_refl _
theorem hund_eq {x t : Nat} (ht : 1 ≤ t) (hx : x ≤ t) (hl : t ≤ 100000) : (if nI t ≤ 0 then 0 else nI x * 100 / nI t) = (100 * (nI x).toInt64 / (nI t).toInt64).toInt32 := by
  rw [if_neg (fun z => by have := (nI_le0 (by omega)).mp z; omega), show (100 : Int32) = nI 100 from rfl, pk_mul, nI_div (by omega) (by omega), lI_of (by omega), lI_of (by omega), show (100 : Int64) = lI 100 from rfl, lI_mul, lI_div (by omega) (by omega), Nat.mul_comm x 100, lI_32 (by have := Nat.div_le_self (100 * x) t; omega)]
section
variable {b : Bool} {h nv ns nt nb nd nw : Nat} {t : tS} {s : oT} {M M' : gM}
theorem fct_eq (r : Rl b h nv ns nt nb nd nw t s M M') {i : Nat} (hi : i < nv) : fct M (2 * i + 42) = mfct M' i (nI nw + 1) := by
  obtain ⟨r1, r2, r3, r4, r5, r6, r7, r8, r9, r10, r11, -⟩ := r
  have hi2 : i < 12 := by have := r1.1; omega
  obtain ⟨g0, g1, g2, g3, g4, g6, g7, g8, g9⟩ := r5 i hi2
  obtain ⟨p, be, tk, x, h1, h2, h3, h4, h5⟩ := r4.1 i hi
  funext w
  match w with
  | 0 => show M.1 0 12 + 1 = _; rw [r2.2.2.2.2.2]; rfl
  | 1 => exact g0
  | 2 => exact g1
  | 3 => exact g7
  | 4 =>
    show hund M (2 * i + 42) = (100 * (M'.1 108 i).toInt64 / (M'.1 107 i).toInt64).toInt32
    unfold hund
    rw [g2, g3, h3, h4]
    exact hund_eq (by omega) (by omega) (by omega)
  | w + 5 => exact r10
theorem want_eq (r : Rl b h nv ns nt nb nd nw t s M M') {i : Nat} (hi : i < nv) {nl : Nat} {B : Nat → Bool} {A : Nat → Int32} {ST : Nat → Nat} {C : Nat → Nat × Int32} : wantV M (2 * i + 42) nl B A ST C = mwantV M' i (nI nw + 1) nl B A ST C := by
  unfold wantV mwantV
  have hi2 : i < 12 := by have := r.1.1; omega
  rw [fct_eq r hi, (r.2.2.2.2.1 i hi2).1, (r.2.2.2.2.1 i hi2).2.1]
theorem told_eq (r : Rl b h nv ns nt nb nd nw t s M M') {i : Nat} (hi : i < nv) {w : Nat} (hw : w < 9) : fTold M (2 * i + 42) w = mTold M' i nw w := by
  have hi2 : i < 12 := by have := r.1.1; omega
  obtain ⟨r1, r2, r3, r4, r5, r6, -⟩ := r
  obtain ⟨g0, g1, g2, g3, g4, g6, g7, g8, g9⟩ := r5 i hi2
  rcases (show w = 0 ∨ w = 1 ∨ w = 2 ∨ w = 3 ∨ w = 4 ∨ w = 5 ∨ w = 6 ∨ w = 7 ∨ w = 8 by omega) with rfl | rfl | rfl | rfl | rfl | rfl | rfl | rfl | rfl
  · exact g0
  · exact g1
  · exact g3
  · exact g4
  · exact (r6 i hi2).1
  · show (if M.1 (2 * i + 42) 6 = 0 then (0 : Int32) else 1) = if M'.1 114 i = 0 then 0 else 1
    rw [g6]
  · exact g7
  · exact g8
  · exact g9
theorem count_eq (r : Rl b h nv ns nt nb nd nw t s M M') {w : Nat} (hw : w < 10) : fCount M (if b then 17 else 11) w = mCount M' h w := by
  obtain ⟨r1, r2, r3, r4, r5, r6, r7, r8, r9, r10, r11, r12, r13, r14, r15, r16⟩ := r
  rcases (show w = 0 ∨ w = 1 ∨ w = 2 ∨ w = 3 ∨ w = 4 ∨ w = 5 ∨ w = 6 ∨ w = 7 ∨ w = 8 ∨ w = 9 by omega) with rfl | rfl | rfl | rfl | rfl | rfl | rfl | rfl | rfl | rfl
  · exact r2.1.trans r3.1.symm
  · exact r2.2.1.trans r3.2.1.symm
  · exact r2.2.2.1.trans r3.2.2.1.symm
  · exact r2.2.2.2.2.2.trans r3.2.2.2.2.2.symm
  · exact r10
  · exact r11
  · exact r2.2.2.2.1.trans r3.2.2.2.1.symm
  · exact r2.2.2.2.2.1.trans r3.2.2.2.2.1.symm
  · exact r14.2.1.trans r15.2.2.2.1.symm
  · exact r12.1.trans r13.1.symm
theorem short_eq (r : Rl b h nv ns nt nb nd nw t s M M') {q : Nat} (hq : q < 4) : fShort M (q + 74) = if M'.1 136 q < 3 then 0 else if M'.1 137 q ≤ M'.1 138 q then 0 else 1 := by
  obtain ⟨r1, r2, r3, r4, r5, r6, r7, r8, -⟩ := r
  obtain ⟨-, -, -, -, -, -, g6, g7, g8⟩ := r8 q hq
  unfold fShort
  rw [g6, g7, g8]
theorem sumI_c {f g : Nat → Int32} : ∀ n, (∀ i, i < n → f i = g i) → sumI f n = sumI g n
  | 0, _ => rfl
  | n + 1, e => by unfold sumI; rw [sumI_c n (fun i hi => e i (by omega)), e n (by omega)]
theorem best_eq (r : Rl b h nv ns nt nb nd nw t s M M') {bo : Nat → Nat} (hbo : ∀ i, i < nb → M'.1 132 i = nI (bo i) ∧ bo i < 12) {pu : Int32} : ∀ m, m ≤ 1023 → ∀ q q', bBest M nb pu m q → mbBest M' bo nb pu m q' → q = q' := by
  obtain ⟨r1, r2, r3, r4, r5, r6, r7, r8, r9, -⟩ := r
  have l4 := r1.2.2.2.1
  have eW : ∀ m, m ≤ 1023 → bWorth M nb m = mbW M' bo m nb := fun m hm => sumI_c nb (fun i hi => by
    show bitv m i * M.1 (i + 78) 2 = if bitv m i = 1 then M'.1 133 i * M'.1 105 (bo i) else 0
    rcases bitv_01 (s := m) (i := i) (by omega) (by omega) with e | e
    · rw [e, if_neg (by decide), Int32.zero_mul]
    · rw [e, if_pos rfl, Int32.one_mul]
      exact (r9 i (by omega)).2.2.2 hi _ (hbo i hi).2 (hbo i hi).1)
  have eC : ∀ m, m ≤ 1023 → bCost M nb m = mbC M' m nb := fun m hm => sumI_c nb (fun i hi => by
    show bitv m i * M.1 (i + 78) 1 = if bitv m i = 1 then M'.1 134 i else 0
    rcases bitv_01 (s := m) (i := i) (by omega) (by omega) with e | e
    · rw [e, if_neg (by decide), Int32.zero_mul]
    · rw [e, if_pos rfl, Int32.one_mul]
      exact (r9 i (by omega)).2.1)
  have eO : ∀ m, bOpen M nb m ↔ mbO M' m nb := fun m => ⟨fun z i hi e => (r9 i (by omega)).2.2.1.symm.trans (z i hi e), fun z i hi e => (r9 i (by omega)).2.2.1.trans (z i hi e)⟩
  have eT : ∀ m, m ≤ 1023 → ∀ q, bTake M nb pu m q ↔ mbTake M' bo nb pu m q := fun m hm q => by
    unfold bTake mbTake
    rw [eW m hm, eC m hm, eO m]
  intro m
  induction m with
  | zero => intro _ q q' h1 h2; exact h1.trans h2.symm
  | succ m ih =>
    intro hm q q' h1 h2
    obtain ⟨q0, g1, g2⟩ := h1
    obtain ⟨q0', g1', g2'⟩ := h2
    have e0 := ih (by omega) q0 q0' g1 g1'
    subst e0
    rcases g2 with ⟨a1, a2⟩ | ⟨a1, a2⟩
    · rcases g2' with ⟨c1, c2⟩ | ⟨c1, c2⟩
      · rw [a2, c2, eW _ hm, eC _ hm]
      · exact absurd ((eT _ hm q0).mp a1) c1
    · rcases g2' with ⟨c1, c2⟩ | ⟨c1, c2⟩
      · exact absurd ((eT _ hm q0).mpr c1) a1
      · rw [a2, c2]
end

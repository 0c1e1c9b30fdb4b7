/-! the memory that the constructors leave -/
def Mz : gM := (fun _ _ => 0, fun _ _ => 0, fun _ _ => none)
theorem Mz_f : fM 0 Mz := ⟨fun k j _ => ⟨rfl, rfl, rfl⟩, fun k j k2 e => by cases e⟩
def Mfin : gM := modM (carM Mz)
theorem Mfin_f : fM 139 Mfin := modM_f ((carM_f Mz_f.up).up)
def Mst : gM := (Mfin.1, Mfin.2.1, stdR false)
theorem itw_1 {M : gM} {c k j : Nat} : ∀ n, (itw M c n).1 k j = if k = c ∧ j < n then 10 else M.1 k j
  | 0 => by rw [if_neg (by omega)]; rfl
  | n + 1 => by
    show (gwI (itw M c n) c n 10).1 k j = _
    rw [gwI_rd, itw_1 n]
    by_cases h1 : k = c ∧ j = n
    · rw [if_pos h1, if_pos (by omega)]
    · rw [if_neg h1]
      by_cases h2 : k = c ∧ j < n
      · rw [if_pos h2, if_pos (by omega)]
      · rw [if_neg h2, if_neg (by omega)]
theorem mkS_1 {M : gM} {i k j : Nat} : (mkS M (i + 1)).1 k j = if k = 2 * i + 67 ∧ j < 12 then 10 else (mkS M i).1 k j := itw_1 12
theorem modM_1 {M : gM} {k j : Nat} : (modM M).1 k j = if k = 125 ∧ j < 48 then 10 else M.1 k j := itw_1 48
theorem Mfin_1 {k j : Nat} : Mfin.1 k j = if k = 125 ∧ j < 48 then 10 else if k = 73 ∧ j < 12 then 10 else if k = 71 ∧ j < 12 then 10 else if k = 69 ∧ j < 12 then 10 else if k = 67 ∧ j < 12 then 10 else 0 := by
  unfold Mfin
  rw [modM_1]
  show (if k = 125 ∧ j < 48 then (10 : Int32) else (mkS (mkV (carM0 Mz) 12) 4).1 k j) = _
  rw [mkS_1, mkS_1, mkS_1, mkS_1]
  rfl
theorem Mst_0 {k j : Nat} (h : ¬ (k = 125 ∧ j < 48) ∧ ¬ ((k = 67 ∨ k = 69 ∨ k = 71 ∨ k = 73) ∧ j < 12)) : Mst.1 k j = 0 := by
  show Mfin.1 k j = 0
  rw [Mfin_1, if_neg h.1, if_neg (by omega), if_neg (by omega), if_neg (by omega), if_neg (by omega)]
theorem Mst_w {i j : Nat} (hi : i < 4) (hj : j < 12) : Mst.1 (2 * i + 67) j = 10 := by
  show Mfin.1 (2 * i + 67) j = 10
  rw [Mfin_1, if_neg (by omega)]
  rcases (show i = 0 ∨ i = 1 ∨ i = 2 ∨ i = 3 by omega) with rfl | rfl | rfl | rfl
  · rw [if_neg (by omega), if_neg (by omega), if_neg (by omega), if_pos (by omega)]
  · rw [if_neg (by omega), if_neg (by omega), if_pos (by omega)]
  · rw [if_neg (by omega), if_pos (by omega)]
  · rw [if_pos (by omega)]
theorem Mst_m {j : Nat} (hj : j < 48) : Mst.1 125 j = 10 := by
  show Mfin.1 125 j = 10
  rw [Mfin_1, if_pos ⟨rfl, hj⟩]
theorem Mst_wd : wdM Mst := by
  intro w hw
  show Mfin.2.1 93 w = _
  exact (by decide +kernel : ∀ w, w < 10 → Mfin.2.1 93 w = wval (wcd w)) w hw
theorem Inv_0 : Inv Mst := by
  have hz : ∀ k j, ¬ (k = 125 ∧ j < 48) ∧ ¬ ((k = 67 ∨ k = 69 ∨ k = 71 ∨ k = 73) ∧ j < 12) → Mst.1 k j = 0 := fun k j h => Mst_0 h
  have n0 : (0 : Int32) = nI 0 := rfl
  refine ⟨false, 0, 0, 0, 0, 0, 0, 0, (0, fun _ => 0), oT0, rfl, ⟨by omega, by omega, by omega, by omega, by omega, by omega⟩, ⟨hz 0 7 (by omega), hz 0 8 (by omega), hz 0 9 (by omega), hz 0 10 (by omega), hz 0 11 (by omega), hz 0 12 (by omega)⟩, ⟨hz 88 26 (by omega), hz 88 38 (by omega), hz 88 43 (by omega), hz 88 62 (by omega), hz 88 67 (by omega), hz 88 25 (by omega)⟩, ⟨?_, ?_, ?_, ?_, ?_, ?_, ?_, ?_, ?_⟩, ?_, ?_, ?_, ?_, ?_, ?_, ?_, ?_, ?_, ?_, ?_, Mst_wd, fun i hi => absurd hi (Nat.not_lt_zero i)⟩
  · exact fun i hi => absurd hi (Nat.not_lt_zero i)
  · exact fun i hi => ⟨0, hz 109 i (by omega), Nat.zero_le _⟩
  · exact fun i d hi hd => ⟨0, hz 113 _ (by omega), Nat.zero_le _, fun _ => rfl⟩
  · exact fun i hi => absurd hi (Nat.not_lt_zero i)
  · exact fun i hi => ⟨10, Mst_m hi, by omega, by omega⟩
  · exact fun i hi => absurd hi (Nat.not_lt_zero i)
  · exact fun i hi => absurd hi (Nat.not_lt_zero i)
  · exact fun i hi => Or.inl (hz 114 i (by omega))
  · exact fun i hi => Or.inl (hz 135 i (by omega))
  · intro i hi
    rw [hz (2 * i + 42) 0 (by omega), hz (2 * i + 42) 1 (by omega), hz (2 * i + 42) 2 (by omega), hz (2 * i + 42) 3 (by omega), hz (2 * i + 42) 4 (by omega), hz (2 * i + 42) 6 (by omega), hz (2 * i + 42) 7 (by omega), hz (2 * i + 42) 8 (by omega), hz (2 * i + 42) 9 (by omega), hz 105 i (by omega), hz 106 i (by omega), hz 107 i (by omega), hz 108 i (by omega), hz 109 i (by omega), hz 114 i (by omega), hz 110 i (by omega), hz 111 i (by omega), hz 112 i (by omega)]
    exact ⟨rfl, rfl, rfl, rfl, rfl, rfl, rfl, rfl, rfl⟩
  · intro i hi
    refine ⟨?_, fun d h1 h2 h3 => by omega, fun j h1 h2 => hz _ _ (by omega)⟩
    rw [hz (2 * i + 42) 5 (by omega), hz 113 (400 * i + 0) (by omega)]
  · intro i hi
    rw [hz (2 * i + 66) 0 (by omega), hz (2 * i + 66) 1 (by omega), hz (2 * i + 66) 2 (by omega), hz (2 * i + 66) 3 (by omega), hz 115 i (by omega), hz 116 i (by omega), hz 117 i (by omega), hz 118 i (by omega)]
    exact ⟨rfl, rfl, rfl, rfl, fun j hj => by rw [Mst_w hi hj, Mst_m (by omega)]⟩
  · intro i hi
    rw [hz (i + 74) 0 (by omega), hz (i + 74) 1 (by omega), hz (i + 74) 2 (by omega), hz (i + 74) 3 (by omega), hz (i + 74) 4 (by omega), hz (i + 74) 5 (by omega), hz (i + 74) 6 (by omega), hz (i + 74) 7 (by omega), hz (i + 74) 8 (by omega), hz 119 i (by omega), hz 120 i (by omega), hz 121 i (by omega), hz 122 i (by omega), hz 123 i (by omega), hz 124 i (by omega), hz 136 i (by omega), hz 137 i (by omega), hz 138 i (by omega)]
    exact ⟨rfl, rfl, rfl, rfl, rfl, rfl, rfl, rfl, rfl⟩
  · intro i hi
    rw [hz (i + 78) 0 (by omega), hz (i + 78) 1 (by omega), hz (i + 78) 3 (by omega), hz 132 i (by omega), hz 134 i (by omega), hz 135 i (by omega)]
    exact ⟨rfl, rfl, rfl, fun hq => absurd hq (Nat.not_lt_zero i)⟩
  · rw [hz 0 13 (by omega), hz 88 37 (by omega)]
  · rw [hz 0 14 (by omega), hz 88 61 (by omega)]
  · exact ⟨hz 7 3 (by omega), Nat.zero_le _, fun j hj => absurd hj (Nat.not_lt_zero j), fun j hj => absurd hj (Nat.not_lt_zero j)⟩
  · exact ⟨hz 88 2 (by omega), Nat.zero_le _, fun j hj => absurd hj (Nat.not_lt_zero j), fun j hj => absurd hj (Nat.not_lt_zero j)⟩
  · rw [show (if false = true then 17 else 11) = 11 from rfl]
    exact ⟨Nat.zero_le _, hz 11 5 (by omega), hz 11 6 (by omega), Nat.zero_le _, fun i hi => absurd hi (Nat.not_lt_zero i), fun j hj => absurd hj (Nat.not_lt_zero j)⟩
  · exact ⟨Nat.zero_le _, Nat.zero_le _, hz 88 16 (by omega), hz 94 0 (by omega), Nat.zero_le _, fun i hi => absurd hi (Nat.not_lt_zero i)⟩
/-- references that are alike as far as they are read -/
def refOK (R R' : Nat → Nat → Option Nat) (k : Nat) : Bool := match gK k with
  | (0, ci, _) => (List.range (gfn ci)).all fun j => !gfc ci j || R k j == R' k j
  | (1, _, _) => true
  | (2, _, _) => true
  | (_, _, n) => (List.range n).all fun j => R k j == R' k j
theorem ref_0 : (List.range 140).all (refOK Mfin.2.2 (stdR false)) = true := by decide +kernel
theorem r_memP {d mc ms : Nat} {own : String} {cc : ByteArray} {nL : Nat} {G : gJ} (hG : gS d mc ms own cc nL G) {Z : Nat × Nat × Nat} {pc : Nat} {L : List (Option Value)} {st : List Value} {M : gM} (R : Nat → Nat → Option Nat) (e : (List.range Z.1).all (refOK M.2.2 R) = true) (k : G Z pc L st (M.1, M.2.1, R)) : G Z pc L st M := by
  obtain ⟨p, l, e1, R0, s, m, args, below, meth, c, D, dA, n0, ad0, Q, ⟨hx, hb, hml, hown, hts, hK, hlk, hfr, hlo, hX⟩, hmc, hms, rfl⟩ := hG
  intro ad H locs ls he hP hD hS hl
  refine k ad H locs ls he (fun i q hq => ?_) ⟨fun i j p q hp hq e2 => ?_, fun i q hq => ?_⟩ hS hl
  · obtain ⟨hi, rfl⟩ := gw_inv hq
    have h := hP i _ (gw_at hi)
    have ho := List.all_eq_true.mp e i (List.mem_range.mpr hi)
    show va_at D vwCl (ad i, ge dA ad (M.1, M.2.1, R) i) H
    unfold refOK at ho
    unfold ge at h ⊢
    generalize gK i = g at ho h
    obtain ⟨a, b, n⟩ := g
    match a, ho, h with
    | 0, ho, h =>
      have eg : gfs ad (M.1, M.2.1, R) i b = gfs ad M i b := by
        unfold gfs
        refine List.map_congr_left fun j hj => ?_
        have h1 := List.all_eq_true.mp ho j hj
        cases hc : gfc b j with
        | false => rfl
        | true =>
          rw [hc] at h1
          show va_rf ((R i j).map ad) = va_rf ((M.2.2 i j).map ad)
          rw [show M.2.2 i j = R i j by simpa using h1]
      show va_at D vwCl (ad i, .inr (b, gfs ad (M.1, M.2.1, R) i b)) H
      rw [eg]
      exact h
    | 1, ho, h => exact h
    | 2, ho, h => exact h
    | a + 3, ho, h =>
      show H[ad i]? = some (arrV (dA b) n (fun j => va_rf ((R i j).map ad)))
      have h2 : H[ad i]? = some (arrV (dA b) n (fun j => va_rf ((M.2.2 i j).map ad))) := h
      rw [h2]
      congr 1
      refine arrV_congr (fun j hj => ?_)
      have h1 := List.all_eq_true.mp ho j (List.mem_range.mpr hj)
      rw [show M.2.2 i j = R i j by simpa using h1]
  · obtain ⟨hi, rfl⟩ := gw_inv hp
    obtain ⟨hj, rfl⟩ := gw_inv hq
    exact hD.1 i j _ _ (gw_at hi) (gw_at hj) e2
  · obtain ⟨hi, rfl⟩ := gw_inv hq
    exact hD.2 i (ad i, ge dA ad M i) (gw_at hi)

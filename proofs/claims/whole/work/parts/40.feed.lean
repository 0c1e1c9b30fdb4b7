/-- the tape: how many signs, and which -/
abbrev tS : Type := Nat × (Nat → Int32)
abbrev okS (x : Int32) : Prop := x = 10 ∨ (32 ≤ x ∧ x ≤ 126)
def psh (x : Int32) (s : tS) : tS := if okS x ∧ s.1 < 600 then (s.1 + 1, upd s.2 s.1 x) else s
def tpC (M : gM) (s : tS) : Prop := M.1 7 3 = nI s.1 ∧ s.1 ≤ 600 ∧ (∀ j, j < s.1 → M.1 8 j = s.2 j) ∧ ∀ j, j < s.1 → okS (s.2 j)
def tpM (M : gM) (s : tS) : Prop := M.1 88 2 = nI s.1 ∧ s.1 ≤ 600 ∧ (∀ j, j < s.1 → M.1 89 j = s.2 j) ∧ ∀ j, j < s.1 → okS (s.2 j)
def S8 (k j : Nat) : Prop := k = 8 ∨ (k = 7 ∧ j = 3)
def S89 (k j : Nat) : Prop := k = 89 ∨ (k = 88 ∧ j = 2)
theorem upd_at {f : Nat → Int32} {n : Nat} {x : Int32} : upd f n x n = x := by simp [upd]
theorem upd_ne {f : Nat → Int32} {n j : Nat} {x : Int32} (h : j ≠ n) : upd f n x j = f j := by simp [upd, h]
theorem psh_y {x : Int32} {s : tS} (h : okS x) (hs : s.1 < 600) : psh x s = (s.1 + 1, upd s.2 s.1 x) := if_pos ⟨h, hs⟩
theorem psh_n1 {x : Int32} {s : tS} (h : ¬ okS x) : psh x s = s := if_neg (fun q => h q.1)
theorem psh_n2 {x : Int32} {s : tS} (h : ¬ s.1 < 600) : psh x s = s := if_neg (fun q => h q.2)
theorem tpC.psh {M : gM} {s : tS} {x : Int32} (h : tpC M s) (hx : okS x) (hs : s.1 < 600) : tpC (gwI (gwI M 8 s.1 x) 7 3 (nI s.1 + 1)) (s.1 + 1, upd s.2 s.1 x) := by
  obtain ⟨h1, h2, h3, h4⟩ := h
  refine ⟨by rw [gwI_s, nI_1], by show s.1 + 1 ≤ 600; omega, fun j (hj : j < s.1 + 1) => ?_, fun j (hj : j < s.1 + 1) => ?_⟩
  · show _ = upd s.2 s.1 x j
    by_cases e : j = s.1
    · subst e; rw [gwI_n (by omega), gwI_s, upd_at]
    · rw [gwI_n (by omega), gwI_n (by omega), upd_ne e]; exact h3 j (by omega)
  · show okS (upd s.2 s.1 x j)
    by_cases e : j = s.1
    · subst e; rw [upd_at]; exact hx
    · rw [upd_ne e]; exact h4 j (by omega)
theorem tpM.psh {M : gM} {s : tS} {x : Int32} (h : tpM M s) (hx : okS x) (hs : s.1 < 600) : tpM (gwI (gwI M 89 s.1 x) 88 2 (nI s.1 + 1)) (s.1 + 1, upd s.2 s.1 x) := by
  obtain ⟨h1, h2, h3, h4⟩ := h
  refine ⟨by rw [gwI_s, nI_1], by show s.1 + 1 ≤ 600; omega, fun j (hj : j < s.1 + 1) => ?_, fun j (hj : j < s.1 + 1) => ?_⟩
  · show _ = upd s.2 s.1 x j
    by_cases e : j = s.1
    · subst e; rw [gwI_n (by omega), gwI_s, upd_at]
    · rw [gwI_n (by omega), gwI_n (by omega), upd_ne e]; exact h3 j (by omega)
  · show okS (upd s.2 s.1 x j)
    by_cases e : j = s.1
    · subst e; rw [upd_at]; exact hx
    · rw [upd_ne e]; exact h4 j (by omega)
theorem tpC.c {M M' : gM} {s : tS} (h : tpC M s) (hq : ∀ k j, S8 k j → M'.1 k j = M.1 k j) : tpC M' s := ⟨(hq 7 3 (by unfold S8; omega)).trans h.1, h.2.1, fun j hj => (hq 8 j (by unfold S8; omega)).trans (h.2.2.1 j hj), h.2.2.2⟩
theorem tpM.c {M M' : gM} {s : tS} (h : tpM M s) (hq : ∀ k j, S89 k j → M'.1 k j = M.1 k j) : tpM M' s := ⟨(hq 88 2 (by unfold S89; omega)).trans h.1, h.2.1, fun j hj => (hq 89 j (by unfold S89; omega)).trans (h.2.2.1 j hj), h.2.2.2⟩
/-- the byte at shift k -/
def bM (v : Int64) (k : Int32) : Int32 := (v >>> (k.toInt64 &&& 63)).toInt32 &&& 255
def bC (v : Int64) (k : Int32) : Int32 := ((v.toUInt64 >>> (k.toInt64.toUInt64 &&& Int64.toUInt64 63)).toInt64 &&& 255).toInt32
theorem bM_char (v : Int64) (k : Int32) : ((bM v k).toUInt32 % 65536).toInt32 = bM v k := sc_c2 _
def psh8 (v : Int64) (s : tS) : tS := psh (bM v 0) (psh (bM v 8) (psh (bM v 16) (psh (bM v 24) (psh (bM v 32) (psh (bM v 40) (psh (bM v 48) (psh (bM v 56) s)))))))
theorem bC_bM (v : Int64) : ∀ k : Nat, k ≤ 56 → bC v (nI k) = bM v (nI k) := by
  intro k hk
  have e1 : ((nI k).toInt64.toUInt64 &&& Int64.toUInt64 63).toBitVec = BitVec.ofNat 64 k := by
    revert k; decide
  have e2 : ((nI k).toInt64 &&& 63).toBitVec = BitVec.ofNat 64 k := by
    revert k; decide
  apply Int32.toBitVec_inj.mp
  unfold bC bM
  simp only [Int32.toBitVec_and, Int64.toBitVec_toInt32, Int64.toBitVec_and, UInt64.toBitVec_toInt64, UInt64.toBitVec_shiftRight, Int64.toBitVec_shiftRight, e1, e2]
  have e3 : (BitVec.ofNat 64 k).smod (BitVec.ofNat 64 64) = BitVec.ofNat 64 k := by
    revert k; decide
  have e4 : (BitVec.ofNat 64 k) % (BitVec.ofNat 64 64) = BitVec.ofNat 64 k := by
    revert k; decide
  apply BitVec.eq_of_getLsbD_eq
  intro i hi
  simp
  rw [e3, BitVec.toNat_ofNat, Nat.mod_eq_of_lt (show k < 64 by omega), Nat.mod_eq_of_lt (show k < 2 ^ 64 by omega)]
  by_cases h8 : i < 8
  · congr 1
    rw [BitVec.getLsbD_signExtend, BitVec.getLsbD_signExtend, BitVec.getLsbD_ushiftRight, BitVec.getLsbD_sshiftRight]
    simp [show i < 64 by omega, show k + i < 64 by omega, show ¬ 64 ≤ i by omega]
  · have h255 : (255#32).getLsbD i = false := by
      revert i; decide
    rw [h255, Bool.and_false, Bool.and_false]
set_option maxRecDepth 100000 in
set_option maxHeartbeats 400000 in
theorem ct_X6_addSign {M : gM} {b : Bool} (hR : M.2.2 = stdR b) {s : tS} (hs : tpC M s) (x : Int32) (hx : (x.toUInt32 % 65536).toInt32 = x) : gC 1 0 0 yX6_addSign cX6_addSign 2 none 140 140 [.ref 7, .int x] M (gV (fun M9 => tpC M9 (psh x s) ∧ gEq S8 M M9)) := by
  refine gC_v rfl (Nat.le_of_ble_eq_true rfl) (fun G hG hE => ?_)
  change G (140, 0, 0) 0 [some (.ref 7), some (.int x)] [] M
  have h600 := hs.2.1
  refine r_iload_n hG dX6_addSign_0 rfl ?_
  refine r_bipush hG (10) dX6_addSign_1 (by decide) ?_
  refine r_icmp_eq hG 17 dX6_addSign_3 (by decide) (fun hc3 => ?_) (fun hc3 => ?_)
  · refine r_aload_n hG dX6_addSign_17 rfl ?_
    refine r_getIv hG 3 (nI s.1) fk_X6_32 dX6_addSign_18 rfl (by decide) rfl hs.1 ?_
    refine r_sipush hG (600) dX6_addSign_21 (by decide) ?_
    refine r_icmp_ge hG 48 dX6_addSign_24 (by decide) (fun hc24 => ?_) (fun hc24 => ?_)
    · have hn24 := nle_t (a := 600) (b := s.1) (by omega) (by omega) hc24
      refine hE _ _ _ _ dX6_addSign_48 rfl (Nat.le_refl _) (Nat.le_refl _) ?_
      rw [psh_n2 (by omega)]
      exact ⟨hs, gEq.rf⟩
    · have hn24 := nle_f (a := 600) (b := s.1) (by omega) (by omega) hc24
      refine r_aload_n hG dX6_addSign_27 rfl ?_
      refine r_getR hG 0 8 fk_X6_9 dX6_addSign_28 rfl (by decide) rfl (sr hR rfl) ?_
      refine r_aload_n hG dX6_addSign_31 rfl ?_
      refine r_getIv hG 3 (nI s.1) fk_X6_32 dX6_addSign_32 rfl (by decide) rfl hs.1 ?_
      refine r_iload_n hG dX6_addSign_35 rfl ?_
      refine r_i2c hG dX6_addSign_36 ?_
      refine r_top (x) hx ?_
      refine r_cast hG s.1 dX6_addSign_37 rfl (by decide) rfl (by omega) (by decide) (by have := pk_vc x; rw [hx] at this; exact this) ?_
      refine r_aload_n hG dX6_addSign_38 rfl ?_
      refine r_dup hG dX6_addSign_39 rfl ?_
      refine r_getIv hG 3 (nI s.1) fk_X6_32 dX6_addSign_40 rfl (by decide) rfl ((gwI_n (by omega)).trans hs.1) ?_
      refine r_iconst hG (1) dX6_addSign_43 (by decide) ?_
      refine r_iadd hG dX6_addSign_44 ?_
      refine r_putI hG 3 fp_X6_32 dX6_addSign_45 rfl (by decide) rfl rfl rfl ?_
      refine hE _ _ _ _ dX6_addSign_48 rfl (Nat.le_refl _) (Nat.le_refl _) ?_
      rw [psh_y (Or.inl hc3) (by omega)]
      exact ⟨hs.psh (Or.inl hc3) (by omega), (gEq.rf.put (by unfold S8; omega)).put (by unfold S8; omega)⟩
  · refine r_iload_n hG dX6_addSign_6 rfl ?_
    refine r_bipush hG (32) dX6_addSign_7 (by decide) ?_
    refine r_bipush hG (126) dX6_addSign_9 (by decide) ?_
    refine r_cNI3 hG mk_X6_28 dX6_addSign_11 (ct_X8_within _ _ _) (by decide) ⟨Nat.le_refl _, Nat.le_refl _⟩ (Nat.le_of_ble_eq_true rfl) (fun x9 M9 h9 => ?_)
    obtain ⟨h8, e9⟩ := h9; rw [e9]; rcases h8 with ⟨e8, hw11⟩ | ⟨e8, hw11⟩
    · rw [e8]
      refine r_if_eq hG 48 dX6_addSign_14 (by decide) (fun hc14 => absurd hc14 (by decide)) (fun hc14 => ?_)
      refine r_aload_n hG dX6_addSign_17 rfl ?_
      refine r_getIv hG 3 (nI s.1) fk_X6_32 dX6_addSign_18 rfl (by decide) rfl hs.1 ?_
      refine r_sipush hG (600) dX6_addSign_21 (by decide) ?_
      refine r_icmp_ge hG 48 dX6_addSign_24 (by decide) (fun hc24 => ?_) (fun hc24 => ?_)
      · have hn24 := nle_t (a := 600) (b := s.1) (by omega) (by omega) hc24
        refine hE _ _ _ _ dX6_addSign_48 rfl (Nat.le_refl _) (Nat.le_refl _) ?_
        rw [psh_n2 (by omega)]
        exact ⟨hs, gEq.rf⟩
      · have hn24 := nle_f (a := 600) (b := s.1) (by omega) (by omega) hc24
        refine r_aload_n hG dX6_addSign_27 rfl ?_
        refine r_getR hG 0 8 fk_X6_9 dX6_addSign_28 rfl (by decide) rfl (sr hR rfl) ?_
        refine r_aload_n hG dX6_addSign_31 rfl ?_
        refine r_getIv hG 3 (nI s.1) fk_X6_32 dX6_addSign_32 rfl (by decide) rfl hs.1 ?_
        refine r_iload_n hG dX6_addSign_35 rfl ?_
        refine r_i2c hG dX6_addSign_36 ?_
        refine r_top (x) hx ?_
        refine r_cast hG s.1 dX6_addSign_37 rfl (by decide) rfl (by omega) (by decide) (by have := pk_vc x; rw [hx] at this; exact this) ?_
        refine r_aload_n hG dX6_addSign_38 rfl ?_
        refine r_dup hG dX6_addSign_39 rfl ?_
        refine r_getIv hG 3 (nI s.1) fk_X6_32 dX6_addSign_40 rfl (by decide) rfl ((gwI_n (by omega)).trans hs.1) ?_
        refine r_iconst hG (1) dX6_addSign_43 (by decide) ?_
        refine r_iadd hG dX6_addSign_44 ?_
        refine r_putI hG 3 fp_X6_32 dX6_addSign_45 rfl (by decide) rfl rfl rfl ?_
        refine hE _ _ _ _ dX6_addSign_48 rfl (Nat.le_refl _) (Nat.le_refl _) ?_
        rw [psh_y (Or.inr hw11) (by omega)]
        exact ⟨hs.psh (Or.inr hw11) (by omega), (gEq.rf.put (by unfold S8; omega)).put (by unfold S8; omega)⟩
    · rw [e8]
      refine r_if_eq hG 48 dX6_addSign_14 (by decide) (fun hc14 => ?_) (fun hc14 => absurd hc14 (by decide))
      refine hE _ _ _ _ dX6_addSign_48 rfl (Nat.le_refl _) (Nat.le_refl _) ?_
      rw [psh_n1 (fun q => q.elim hc3 hw11)]
      exact ⟨hs, gEq.rf⟩

set_option maxRecDepth 100000 in
set_option maxHeartbeats 400000 in
theorem ct_X6_addEight {M : gM} {b : Bool} (hR : M.2.2 = stdR b) {s : tS} (hs0 : tpC M s) (v : Int64) : gC 2 0 0 yX6_addEight cX6_addEight 4 none 140 140 [.ref 7, .long v] M (gV (fun M9 => tpC M9 (psh8 v s) ∧ gEq S8 M M9)) := by
  refine gC_v rfl (Nat.le_of_ble_eq_true rfl) (fun G hG hE => ?_)
  change G (140, 0, 0) 0 [some (.ref 7), some (.long v), none, none] [] M
  refine r_bipush hG (56) dX6_addEight_0 (by decide) ?_
  refine r_istore_n hG dX6_addEight_2 (by decide) ?_
  refine r_loc [some (.ref 7), some (.long v), none, some (.int (56))] rfl ?_
  refine r_iload_n hG dX6_addEight_3 rfl ?_
  refine r_if_lt hG 25 dX6_addEight_4 (by decide) (fun hc4 => absurd hc4 (by decide)) (fun hc4 => ?_)
  refine r_aload_n hG dX6_addEight_7 rfl ?_
  refine r_lload_n hG dX6_addEight_8 rfl ?_
  refine r_iload_n hG dX6_addEight_9 rfl ?_
  refine r_lushr hG dX6_addEight_10 ?_
  refine r_ldc2 hG (255) dX6_addEight_11 ck_X6_22 ?_
  refine r_land hG dX6_addEight_14 ?_
  refine r_l2i hG dX6_addEight_15 ?_
  refine r_top (bM v 56) (bC_bM v 56 (by decide)) ?_
  refine r_cVV1 hG mk_X6_24 dX6_addEight_16 rfl (by decide) (ct_X6_addSign hR (s := s) hs0 _ (bM_char _ _)) (by decide) ⟨Nat.le_refl _, Nat.le_refl _⟩ (Nat.le_of_ble_eq_true rfl) (fun M1 h9 => ?_)
  obtain ⟨hs1, hq1⟩ := h9
  have hR : M1.2.2 = stdR b := by rw [hq1.1]; exact hR
  refine r_iinc hG (-8) dX6_addEight_19 (by decide) rfl ?_
  refine r_loc [some (.ref 7), some (.long v), none, some (.int (48))] rfl ?_
  refine r_goto hG 3 dX6_addEight_22 (by decide) ?_
  refine r_iload_n hG dX6_addEight_3 rfl ?_
  refine r_if_lt hG 25 dX6_addEight_4 (by decide) (fun hc4 => absurd hc4 (by decide)) (fun hc4 => ?_)
  refine r_aload_n hG dX6_addEight_7 rfl ?_
  refine r_lload_n hG dX6_addEight_8 rfl ?_
  refine r_iload_n hG dX6_addEight_9 rfl ?_
  refine r_lushr hG dX6_addEight_10 ?_
  refine r_ldc2 hG (255) dX6_addEight_11 ck_X6_22 ?_
  refine r_land hG dX6_addEight_14 ?_
  refine r_l2i hG dX6_addEight_15 ?_
  refine r_top (bM v 48) (bC_bM v 48 (by decide)) ?_
  refine r_cVV1 hG mk_X6_24 dX6_addEight_16 rfl (by decide) (ct_X6_addSign hR (s := (psh (bM v 56) s)) hs1 _ (bM_char _ _)) (by decide) ⟨Nat.le_refl _, Nat.le_refl _⟩ (Nat.le_of_ble_eq_true rfl) (fun M2 h9 => ?_)
  obtain ⟨hs2, hq2⟩ := h9
  have hR : M2.2.2 = stdR b := by rw [hq2.1]; exact hR
  refine r_iinc hG (-8) dX6_addEight_19 (by decide) rfl ?_
  refine r_loc [some (.ref 7), some (.long v), none, some (.int (40))] rfl ?_
  refine r_goto hG 3 dX6_addEight_22 (by decide) ?_
  refine r_iload_n hG dX6_addEight_3 rfl ?_
  refine r_if_lt hG 25 dX6_addEight_4 (by decide) (fun hc4 => absurd hc4 (by decide)) (fun hc4 => ?_)
  refine r_aload_n hG dX6_addEight_7 rfl ?_
  refine r_lload_n hG dX6_addEight_8 rfl ?_
  refine r_iload_n hG dX6_addEight_9 rfl ?_
  refine r_lushr hG dX6_addEight_10 ?_
  refine r_ldc2 hG (255) dX6_addEight_11 ck_X6_22 ?_
  refine r_land hG dX6_addEight_14 ?_
  refine r_l2i hG dX6_addEight_15 ?_
  refine r_top (bM v 40) (bC_bM v 40 (by decide)) ?_
  refine r_cVV1 hG mk_X6_24 dX6_addEight_16 rfl (by decide) (ct_X6_addSign hR (s := (psh (bM v 48) (psh (bM v 56) s))) hs2 _ (bM_char _ _)) (by decide) ⟨Nat.le_refl _, Nat.le_refl _⟩ (Nat.le_of_ble_eq_true rfl) (fun M3 h9 => ?_)
  obtain ⟨hs3, hq3⟩ := h9
  have hR : M3.2.2 = stdR b := by rw [hq3.1]; exact hR
  refine r_iinc hG (-8) dX6_addEight_19 (by decide) rfl ?_
  refine r_loc [some (.ref 7), some (.long v), none, some (.int (32))] rfl ?_
  refine r_goto hG 3 dX6_addEight_22 (by decide) ?_
  refine r_iload_n hG dX6_addEight_3 rfl ?_
  refine r_if_lt hG 25 dX6_addEight_4 (by decide) (fun hc4 => absurd hc4 (by decide)) (fun hc4 => ?_)
  refine r_aload_n hG dX6_addEight_7 rfl ?_
  refine r_lload_n hG dX6_addEight_8 rfl ?_
  refine r_iload_n hG dX6_addEight_9 rfl ?_
  refine r_lushr hG dX6_addEight_10 ?_
  refine r_ldc2 hG (255) dX6_addEight_11 ck_X6_22 ?_
  refine r_land hG dX6_addEight_14 ?_
  refine r_l2i hG dX6_addEight_15 ?_
  refine r_top (bM v 32) (bC_bM v 32 (by decide)) ?_
  refine r_cVV1 hG mk_X6_24 dX6_addEight_16 rfl (by decide) (ct_X6_addSign hR (s := (psh (bM v 40) (psh (bM v 48) (psh (bM v 56) s)))) hs3 _ (bM_char _ _)) (by decide) ⟨Nat.le_refl _, Nat.le_refl _⟩ (Nat.le_of_ble_eq_true rfl) (fun M4 h9 => ?_)
  obtain ⟨hs4, hq4⟩ := h9
  have hR : M4.2.2 = stdR b := by rw [hq4.1]; exact hR
  refine r_iinc hG (-8) dX6_addEight_19 (by decide) rfl ?_
  refine r_loc [some (.ref 7), some (.long v), none, some (.int (24))] rfl ?_
  refine r_goto hG 3 dX6_addEight_22 (by decide) ?_
  refine r_iload_n hG dX6_addEight_3 rfl ?_
  refine r_if_lt hG 25 dX6_addEight_4 (by decide) (fun hc4 => absurd hc4 (by decide)) (fun hc4 => ?_)
  refine r_aload_n hG dX6_addEight_7 rfl ?_
  refine r_lload_n hG dX6_addEight_8 rfl ?_
  refine r_iload_n hG dX6_addEight_9 rfl ?_
  refine r_lushr hG dX6_addEight_10 ?_
  refine r_ldc2 hG (255) dX6_addEight_11 ck_X6_22 ?_
  refine r_land hG dX6_addEight_14 ?_
  refine r_l2i hG dX6_addEight_15 ?_
  refine r_top (bM v 24) (bC_bM v 24 (by decide)) ?_
  refine r_cVV1 hG mk_X6_24 dX6_addEight_16 rfl (by decide) (ct_X6_addSign hR (s := (psh (bM v 32) (psh (bM v 40) (psh (bM v 48) (psh (bM v 56) s))))) hs4 _ (bM_char _ _)) (by decide) ⟨Nat.le_refl _, Nat.le_refl _⟩ (Nat.le_of_ble_eq_true rfl) (fun M5 h9 => ?_)
  obtain ⟨hs5, hq5⟩ := h9
  have hR : M5.2.2 = stdR b := by rw [hq5.1]; exact hR
  refine r_iinc hG (-8) dX6_addEight_19 (by decide) rfl ?_
  refine r_loc [some (.ref 7), some (.long v), none, some (.int (16))] rfl ?_
  refine r_goto hG 3 dX6_addEight_22 (by decide) ?_
  refine r_iload_n hG dX6_addEight_3 rfl ?_
  refine r_if_lt hG 25 dX6_addEight_4 (by decide) (fun hc4 => absurd hc4 (by decide)) (fun hc4 => ?_)
  refine r_aload_n hG dX6_addEight_7 rfl ?_
  refine r_lload_n hG dX6_addEight_8 rfl ?_
  refine r_iload_n hG dX6_addEight_9 rfl ?_
  refine r_lushr hG dX6_addEight_10 ?_
  refine r_ldc2 hG (255) dX6_addEight_11 ck_X6_22 ?_
  refine r_land hG dX6_addEight_14 ?_
  refine r_l2i hG dX6_addEight_15 ?_
  refine r_top (bM v 16) (bC_bM v 16 (by decide)) ?_
  refine r_cVV1 hG mk_X6_24 dX6_addEight_16 rfl (by decide) (ct_X6_addSign hR (s := (psh (bM v 24) (psh (bM v 32) (psh (bM v 40) (psh (bM v 48) (psh (bM v 56) s)))))) hs5 _ (bM_char _ _)) (by decide) ⟨Nat.le_refl _, Nat.le_refl _⟩ (Nat.le_of_ble_eq_true rfl) (fun M6 h9 => ?_)
  obtain ⟨hs6, hq6⟩ := h9
  have hR : M6.2.2 = stdR b := by rw [hq6.1]; exact hR
  refine r_iinc hG (-8) dX6_addEight_19 (by decide) rfl ?_
  refine r_loc [some (.ref 7), some (.long v), none, some (.int (8))] rfl ?_
  refine r_goto hG 3 dX6_addEight_22 (by decide) ?_
  refine r_iload_n hG dX6_addEight_3 rfl ?_
  refine r_if_lt hG 25 dX6_addEight_4 (by decide) (fun hc4 => absurd hc4 (by decide)) (fun hc4 => ?_)
  refine r_aload_n hG dX6_addEight_7 rfl ?_
  refine r_lload_n hG dX6_addEight_8 rfl ?_
  refine r_iload_n hG dX6_addEight_9 rfl ?_
  refine r_lushr hG dX6_addEight_10 ?_
  refine r_ldc2 hG (255) dX6_addEight_11 ck_X6_22 ?_
  refine r_land hG dX6_addEight_14 ?_
  refine r_l2i hG dX6_addEight_15 ?_
  refine r_top (bM v 8) (bC_bM v 8 (by decide)) ?_
  refine r_cVV1 hG mk_X6_24 dX6_addEight_16 rfl (by decide) (ct_X6_addSign hR (s := (psh (bM v 16) (psh (bM v 24) (psh (bM v 32) (psh (bM v 40) (psh (bM v 48) (psh (bM v 56) s))))))) hs6 _ (bM_char _ _)) (by decide) ⟨Nat.le_refl _, Nat.le_refl _⟩ (Nat.le_of_ble_eq_true rfl) (fun M7 h9 => ?_)
  obtain ⟨hs7, hq7⟩ := h9
  have hR : M7.2.2 = stdR b := by rw [hq7.1]; exact hR
  refine r_iinc hG (-8) dX6_addEight_19 (by decide) rfl ?_
  refine r_loc [some (.ref 7), some (.long v), none, some (.int (0))] rfl ?_
  refine r_goto hG 3 dX6_addEight_22 (by decide) ?_
  refine r_iload_n hG dX6_addEight_3 rfl ?_
  refine r_if_lt hG 25 dX6_addEight_4 (by decide) (fun hc4 => absurd hc4 (by decide)) (fun hc4 => ?_)
  refine r_aload_n hG dX6_addEight_7 rfl ?_
  refine r_lload_n hG dX6_addEight_8 rfl ?_
  refine r_iload_n hG dX6_addEight_9 rfl ?_
  refine r_lushr hG dX6_addEight_10 ?_
  refine r_ldc2 hG (255) dX6_addEight_11 ck_X6_22 ?_
  refine r_land hG dX6_addEight_14 ?_
  refine r_l2i hG dX6_addEight_15 ?_
  refine r_top (bM v 0) (bC_bM v 0 (by decide)) ?_
  refine r_cVV1 hG mk_X6_24 dX6_addEight_16 rfl (by decide) (ct_X6_addSign hR (s := (psh (bM v 8) (psh (bM v 16) (psh (bM v 24) (psh (bM v 32) (psh (bM v 40) (psh (bM v 48) (psh (bM v 56) s)))))))) hs7 _ (bM_char _ _)) (by decide) ⟨Nat.le_refl _, Nat.le_refl _⟩ (Nat.le_of_ble_eq_true rfl) (fun M8 h9 => ?_)
  obtain ⟨hs8, hq8⟩ := h9
  have hR : M8.2.2 = stdR b := by rw [hq8.1]; exact hR
  refine r_iinc hG (-8) dX6_addEight_19 (by decide) rfl ?_
  refine r_loc [some (.ref 7), some (.long v), none, some (.int (-8))] rfl ?_
  refine r_goto hG 3 dX6_addEight_22 (by decide) ?_
  refine r_iload_n hG dX6_addEight_3 rfl ?_
  refine r_if_lt hG 25 dX6_addEight_4 (by decide) (fun hc4 => ?_) (fun hc4 => absurd (by decide) hc4)
  refine hE _ _ _ _ dX6_addEight_25 rfl (Nat.le_refl _) (Nat.le_refl _) ?_
  exact ⟨hs8, hq1.trans (hq2.trans (hq3.trans (hq4.trans (hq5.trans (hq6.trans (hq7.trans (hq8)))))))⟩

set_option maxRecDepth 100000 in
set_option maxHeartbeats 400000 in
theorem ct_X8_feed {M : gM} {b : Bool} (hR : M.2.2 = stdR b) {s : tS} (hs0 : tpC M s) (x y z : Int64) : gC 3 0 0 yX8_feed cX8_feed 7 (some .int) 140 140 [.ref 0, .long x, .long y, .long z] M (gI (fun r M9 => r = nI (psh8 z (psh8 y (psh8 x s))).1 ∧ tpC M9 (psh8 z (psh8 y (psh8 x s))) ∧ gEq S8 M M9)) := by
  refine gC_i rfl (Nat.le_of_ble_eq_true rfl) (fun G hG hE => ?_)
  change G (140, 0, 0) 0 [some (.ref 0), some (.long x), none, some (.long y), none, some (.long z), none] [] M
  refine r_aload_n hG dX8_feed_0 rfl ?_
  refine r_getR hG 5 6 fk_X8_40 dX8_feed_1 rfl (by decide) rfl (sr hR rfl) ?_
  refine r_getR hG 0 7 fk_X8_112 dX8_feed_4 rfl (by decide) rfl (sr hR rfl) ?_
  refine r_lload_n hG dX8_feed_7 rfl ?_
  refine r_cVV1 hG mk_X8_116 dX8_feed_8 rfl (by decide) (ct_X6_addEight (by exact hR) (s := s) hs0 _) (by decide) ⟨Nat.le_refl _, Nat.le_refl _⟩ (Nat.le_of_ble_eq_true rfl) (fun M1 h9 => ?_)
  obtain ⟨hs1, hq1⟩ := h9
  have hR : M1.2.2 = stdR b := by rw [hq1.1]; exact hR
  refine r_aload_n hG dX8_feed_11 rfl ?_
  refine r_getR hG 5 6 fk_X8_40 dX8_feed_12 rfl (by decide) rfl (sr hR rfl) ?_
  refine r_getR hG 0 7 fk_X8_112 dX8_feed_15 rfl (by decide) rfl (sr hR rfl) ?_
  refine r_lload_n hG dX8_feed_18 rfl ?_
  refine r_cVV1 hG mk_X8_116 dX8_feed_19 rfl (by decide) (ct_X6_addEight (by exact hR) (s := (psh8 x s)) hs1 _) (by decide) ⟨Nat.le_refl _, Nat.le_refl _⟩ (Nat.le_of_ble_eq_true rfl) (fun M2 h9 => ?_)
  obtain ⟨hs2, hq2⟩ := h9
  have hR : M2.2.2 = stdR b := by rw [hq2.1]; exact hR
  refine r_aload_n hG dX8_feed_22 rfl ?_
  refine r_getR hG 5 6 fk_X8_40 dX8_feed_23 rfl (by decide) rfl (sr hR rfl) ?_
  refine r_getR hG 0 7 fk_X8_112 dX8_feed_26 rfl (by decide) rfl (sr hR rfl) ?_
  refine r_lload hG dX8_feed_29 rfl ?_
  refine r_cVV1 hG mk_X8_116 dX8_feed_31 rfl (by decide) (ct_X6_addEight (by exact hR) (s := (psh8 y (psh8 x s))) hs2 _) (by decide) ⟨Nat.le_refl _, Nat.le_refl _⟩ (Nat.le_of_ble_eq_true rfl) (fun M3 h9 => ?_)
  obtain ⟨hs3, hq3⟩ := h9
  have hR : M3.2.2 = stdR b := by rw [hq3.1]; exact hR
  refine r_aload_n hG dX8_feed_34 rfl ?_
  refine r_getR hG 5 6 fk_X8_40 dX8_feed_35 rfl (by decide) rfl (sr hR rfl) ?_
  refine r_getR hG 0 7 fk_X8_112 dX8_feed_38 rfl (by decide) rfl (sr hR rfl) ?_
  refine r_getIv hG 3 (nI (psh8 z (psh8 y (psh8 x s))).1) fk_X8_122 dX8_feed_41 rfl (by decide) rfl hs3.1 ?_
  refine hE _ _ _ _ _ dX8_feed_44 rfl (Nat.le_refl _) (Nat.le_refl _) rfl ?_
  exact ⟨rfl, hs3, hq1.trans (hq2.trans hq3)⟩

set_option maxRecDepth 100000 in
set_option maxHeartbeats 400000 in
theorem lp_X9_lay {G : gJ} (hG : gS 0 0 0 yX9_lay.cls cX9_lay 5 G) {M : gM} {b : Bool} (hR : M.2.2 = stdR b) {s : tS} (hs : tpM M s) {v : Int64} {k : Int32} (hk : ¬ k < 0) {x4 : Option Value} (hK : ∀ M9, tpM M9 (psh (bM v k) s) → gEq S89 M M9 → ∀ x4, G (140, 0, 0) 3 [some (.ref 88), some (.long v), none, some (.int (k + (-8))), x4] [] M9) : G (140, 0, 0) 3 [some (.ref 88), some (.long v), none, some (.int k), x4] [] M := by
  have h600 := hs.2.1
  refine r_iload_n hG dX9_lay_3 rfl ?_
  refine r_if_lt hG 75 dX9_lay_4 (by decide) (fun hc4 => absurd hc4 hk) (fun hc4 => ?_)
  refine r_lload_n hG dX9_lay_7 rfl ?_
  refine r_iload_n hG dX9_lay_8 rfl ?_
  refine r_lshr hG dX9_lay_9 ?_
  refine r_l2i hG dX9_lay_10 ?_
  refine r_sipush hG (255) dX9_lay_11 (by decide) ?_
  refine r_iand hG dX9_lay_14 ?_
  refine r_top ((bM v k)) rfl ?_
  refine r_istore hG dX9_lay_15 (by decide) ?_
  refine r_loc [some (.ref 88), some (.long v), none, some (.int k), some (.int (bM v k))] rfl ?_
  refine r_iload hG dX9_lay_17 rfl ?_
  refine r_bipush hG (10) dX9_lay_19 (by decide) ?_
  refine r_icmp_eq hG 38 dX9_lay_21 (by decide) (fun hc21 => ?_) (fun hc21 => ?_)
  · refine r_aload_n hG dX9_lay_38 rfl ?_
    refine r_getIv hG 2 (nI s.1) fk_X9_11 dX9_lay_39 rfl (by decide) rfl hs.1 ?_
    refine r_sipush hG (600) dX9_lay_42 (by decide) ?_
    refine r_icmp_ge hG 69 dX9_lay_45 (by decide) (fun hc45 => ?_) (fun hc45 => ?_)
    · have hn45 := nle_t (a := 600) (b := s.1) (by omega) (by omega) hc45
      refine r_iinc hG (-8) dX9_lay_69 (by decide) rfl ?_
      refine r_loc [some (.ref 88), some (.long v), none, some (.int (k + (-8))), some (.int (bM v k))] rfl ?_
      refine r_goto hG 3 dX9_lay_72 (by decide) ?_
      rw [← psh_n2 (x := bM v k) (s := s) (by omega)] at hs
      exact hK M hs gEq.rf _
    · have hn45 := nle_f (a := 600) (b := s.1) (by omega) (by omega) hc45
      refine r_aload_n hG dX9_lay_48 rfl ?_
      refine r_getR hG 1 89 fk_X9_14 dX9_lay_49 rfl (by decide) rfl (sr hR rfl) ?_
      refine r_aload_n hG dX9_lay_52 rfl ?_
      refine r_getIv hG 2 (nI s.1) fk_X9_11 dX9_lay_53 rfl (by decide) rfl hs.1 ?_
      refine r_iload hG dX9_lay_56 rfl ?_
      refine r_iast hG s.1 dX9_lay_58 rfl (by decide) rfl (by omega) (by decide) ?_
      refine r_aload_n hG dX9_lay_59 rfl ?_
      refine r_dup hG dX9_lay_60 rfl ?_
      refine r_getIv hG 2 (nI s.1) fk_X9_11 dX9_lay_61 rfl (by decide) rfl ((gwI_n (by omega)).trans hs.1) ?_
      refine r_iconst hG (1) dX9_lay_64 (by decide) ?_
      refine r_iadd hG dX9_lay_65 ?_
      refine r_putI hG 2 fp_X9_11 dX9_lay_66 rfl (by decide) rfl rfl rfl ?_
      refine r_iinc hG (-8) dX9_lay_69 (by decide) rfl ?_
      refine r_loc [some (.ref 88), some (.long v), none, some (.int (k + (-8))), some (.int (bM v k))] rfl ?_
      refine r_goto hG 3 dX9_lay_72 (by decide) ?_
      have hs1 := hs.psh (x := bM v k) (Or.inl hc21) (by omega)
      rw [← psh_y (x := bM v k) (s := s) (Or.inl hc21) (by omega)] at hs1
      exact hK _ hs1 ((gEq.rf.put (by unfold S89; omega)).put (by unfold S89; omega)) _
  · refine r_iload hG dX9_lay_24 rfl ?_
    refine r_bipush hG (32) dX9_lay_26 (by decide) ?_
    refine r_icmp_lt hG 69 dX9_lay_28 (by decide) (fun hc28 => ?_) (fun hc28 => ?_)
    · refine r_iinc hG (-8) dX9_lay_69 (by decide) rfl ?_
      refine r_loc [some (.ref 88), some (.long v), none, some (.int (k + (-8))), some (.int (bM v k))] rfl ?_
      refine r_goto hG 3 dX9_lay_72 (by decide) ?_
      rw [← psh_n1 (x := bM v k) (s := s) (fun q => q.elim hc21 (fun q => absurd q.1 (Int32.not_le.mpr hc28)))] at hs
      exact hK M hs gEq.rf _
    · refine r_iload hG dX9_lay_31 rfl ?_
      refine r_bipush hG (126) dX9_lay_33 (by decide) ?_
      refine r_icmp_gt hG 69 dX9_lay_35 (by decide) (fun hc35 => ?_) (fun hc35 => ?_)
      · refine r_iinc hG (-8) dX9_lay_69 (by decide) rfl ?_
        refine r_loc [some (.ref 88), some (.long v), none, some (.int (k + (-8))), some (.int (bM v k))] rfl ?_
        refine r_goto hG 3 dX9_lay_72 (by decide) ?_
        rw [← psh_n1 (x := bM v k) (s := s) (fun q => q.elim hc21 (fun q => absurd q.2 (Int32.not_le.mpr hc35)))] at hs
        exact hK M hs gEq.rf _
      · refine r_aload_n hG dX9_lay_38 rfl ?_
        refine r_getIv hG 2 (nI s.1) fk_X9_11 dX9_lay_39 rfl (by decide) rfl hs.1 ?_
        refine r_sipush hG (600) dX9_lay_42 (by decide) ?_
        refine r_icmp_ge hG 69 dX9_lay_45 (by decide) (fun hc45 => ?_) (fun hc45 => ?_)
        · have hn45 := nle_t (a := 600) (b := s.1) (by omega) (by omega) hc45
          refine r_iinc hG (-8) dX9_lay_69 (by decide) rfl ?_
          refine r_loc [some (.ref 88), some (.long v), none, some (.int (k + (-8))), some (.int (bM v k))] rfl ?_
          refine r_goto hG 3 dX9_lay_72 (by decide) ?_
          rw [← psh_n2 (x := bM v k) (s := s) (by omega)] at hs
          exact hK M hs gEq.rf _
        · have hn45 := nle_f (a := 600) (b := s.1) (by omega) (by omega) hc45
          refine r_aload_n hG dX9_lay_48 rfl ?_
          refine r_getR hG 1 89 fk_X9_14 dX9_lay_49 rfl (by decide) rfl (sr hR rfl) ?_
          refine r_aload_n hG dX9_lay_52 rfl ?_
          refine r_getIv hG 2 (nI s.1) fk_X9_11 dX9_lay_53 rfl (by decide) rfl hs.1 ?_
          refine r_iload hG dX9_lay_56 rfl ?_
          refine r_iast hG s.1 dX9_lay_58 rfl (by decide) rfl (by omega) (by decide) ?_
          refine r_aload_n hG dX9_lay_59 rfl ?_
          refine r_dup hG dX9_lay_60 rfl ?_
          refine r_getIv hG 2 (nI s.1) fk_X9_11 dX9_lay_61 rfl (by decide) rfl ((gwI_n (by omega)).trans hs.1) ?_
          refine r_iconst hG (1) dX9_lay_64 (by decide) ?_
          refine r_iadd hG dX9_lay_65 ?_
          refine r_putI hG 2 fp_X9_11 dX9_lay_66 rfl (by decide) rfl rfl rfl ?_
          refine r_iinc hG (-8) dX9_lay_69 (by decide) rfl ?_
          refine r_loc [some (.ref 88), some (.long v), none, some (.int (k + (-8))), some (.int (bM v k))] rfl ?_
          refine r_goto hG 3 dX9_lay_72 (by decide) ?_
          have hs1 := hs.psh (x := bM v k) (Or.inr ⟨Int32.not_lt.mp hc28, Int32.not_lt.mp hc35⟩) (by omega)
          rw [← psh_y (x := bM v k) (s := s) (Or.inr ⟨Int32.not_lt.mp hc28, Int32.not_lt.mp hc35⟩) (by omega)] at hs1
          exact hK _ hs1 ((gEq.rf.put (by unfold S89; omega)).put (by unfold S89; omega)) _

set_option maxRecDepth 100000 in
set_option maxHeartbeats 400000 in
theorem ct_X9_lay {M : gM} {b : Bool} (hR : M.2.2 = stdR b) {s : tS} (hs0 : tpM M s) (v : Int64) : gC 0 0 0 yX9_lay cX9_lay 5 none 140 140 [.ref 88, .long v] M (gV (fun M9 => tpM M9 (psh8 v s) ∧ gEq S89 M M9)) := by
  refine gC_v rfl (Nat.le_of_ble_eq_true rfl) (fun G hG hE => ?_)
  change G (140, 0, 0) 0 [some (.ref 88), some (.long v), none, none, none] [] M
  refine r_bipush hG (56) dX9_lay_0 (by decide) ?_
  refine r_istore_n hG dX9_lay_2 (by decide) ?_
  refine r_loc [some (.ref 88), some (.long v), none, some (.int (56)), none] rfl ?_
  refine lp_X9_lay hG hR (s := s) hs0 (k := 56) (by decide) (fun M1 hs1 hq1 x4 => ?_)
  have hR : M1.2.2 = stdR b := by rw [hq1.1]; exact hR
  refine r_loc [some (.ref 88), some (.long v), none, some (.int (48)), x4] rfl ?_
  refine lp_X9_lay hG hR (s := (psh (bM v 56) s)) hs1 (k := 48) (by decide) (fun M2 hs2 hq2 x4 => ?_)
  have hR : M2.2.2 = stdR b := by rw [hq2.1]; exact hR
  refine r_loc [some (.ref 88), some (.long v), none, some (.int (40)), x4] rfl ?_
  refine lp_X9_lay hG hR (s := (psh (bM v 48) (psh (bM v 56) s))) hs2 (k := 40) (by decide) (fun M3 hs3 hq3 x4 => ?_)
  have hR : M3.2.2 = stdR b := by rw [hq3.1]; exact hR
  refine r_loc [some (.ref 88), some (.long v), none, some (.int (32)), x4] rfl ?_
  refine lp_X9_lay hG hR (s := (psh (bM v 40) (psh (bM v 48) (psh (bM v 56) s)))) hs3 (k := 32) (by decide) (fun M4 hs4 hq4 x4 => ?_)
  have hR : M4.2.2 = stdR b := by rw [hq4.1]; exact hR
  refine r_loc [some (.ref 88), some (.long v), none, some (.int (24)), x4] rfl ?_
  refine lp_X9_lay hG hR (s := (psh (bM v 32) (psh (bM v 40) (psh (bM v 48) (psh (bM v 56) s))))) hs4 (k := 24) (by decide) (fun M5 hs5 hq5 x4 => ?_)
  have hR : M5.2.2 = stdR b := by rw [hq5.1]; exact hR
  refine r_loc [some (.ref 88), some (.long v), none, some (.int (16)), x4] rfl ?_
  refine lp_X9_lay hG hR (s := (psh (bM v 24) (psh (bM v 32) (psh (bM v 40) (psh (bM v 48) (psh (bM v 56) s)))))) hs5 (k := 16) (by decide) (fun M6 hs6 hq6 x4 => ?_)
  have hR : M6.2.2 = stdR b := by rw [hq6.1]; exact hR
  refine r_loc [some (.ref 88), some (.long v), none, some (.int (8)), x4] rfl ?_
  refine lp_X9_lay hG hR (s := (psh (bM v 16) (psh (bM v 24) (psh (bM v 32) (psh (bM v 40) (psh (bM v 48) (psh (bM v 56) s))))))) hs6 (k := 8) (by decide) (fun M7 hs7 hq7 x4 => ?_)
  have hR : M7.2.2 = stdR b := by rw [hq7.1]; exact hR
  refine r_loc [some (.ref 88), some (.long v), none, some (.int (0)), x4] rfl ?_
  refine lp_X9_lay hG hR (s := (psh (bM v 8) (psh (bM v 16) (psh (bM v 24) (psh (bM v 32) (psh (bM v 40) (psh (bM v 48) (psh (bM v 56) s)))))))) hs7 (k := 0) (by decide) (fun M8 hs8 hq8 x4 => ?_)
  have hR : M8.2.2 = stdR b := by rw [hq8.1]; exact hR
  refine r_loc [some (.ref 88), some (.long v), none, some (.int (-8)), x4] rfl ?_
  refine r_iload_n hG dX9_lay_3 rfl ?_
  refine r_if_lt hG 75 dX9_lay_4 (by decide) (fun hc4 => ?_) (fun hc4 => absurd (by decide) hc4)
  refine hE _ _ _ _ dX9_lay_75 rfl (Nat.le_refl _) (Nat.le_refl _) ?_
  exact ⟨hs8, hq1.trans (hq2.trans (hq3.trans (hq4.trans (hq5.trans (hq6.trans (hq7.trans (hq8)))))))⟩

set_option maxRecDepth 100000 in
set_option maxHeartbeats 400000 in
theorem ct_X9_feed {M : gM} {b : Bool} (hR : M.2.2 = stdR b) {s : tS} (hs0 : tpM M s) (x y z : Int64) : gC 1 0 0 yX9_feed cX9_feed 7 (some .int) 140 140 [.ref 88, .long x, .long y, .long z] M (gI (fun r M9 => r = nI (psh8 z (psh8 y (psh8 x s))).1 ∧ tpM M9 (psh8 z (psh8 y (psh8 x s))) ∧ gEq S89 (gwI M 88 0 0) M9)) := by
  refine gC_i rfl (Nat.le_of_ble_eq_true rfl) (fun G hG hE => ?_)
  change G (140, 0, 0) 0 [some (.ref 88), some (.long x), none, some (.long y), none, some (.long z), none] [] M
  refine r_aload_n hG dX9_feed_0 rfl ?_
  refine r_iconst hG (0) dX9_feed_1 (by decide) ?_
  refine r_putI hG 0 fp_X9_1 dX9_feed_2 rfl (by decide) rfl rfl rfl ?_
  refine r_aload_n hG dX9_feed_5 rfl ?_
  refine r_lload_n hG dX9_feed_6 rfl ?_
  refine r_cVV1 hG mk_X9_7 dX9_feed_7 rfl (by decide) (ct_X9_lay (by exact hR) (s := s) (hs0.c (fun k j h => gwI_n (by unfold S89 at h; omega))) _) (by decide) ⟨Nat.le_refl _, Nat.le_refl _⟩ (Nat.le_of_ble_eq_true rfl) (fun M1 h9 => ?_)
  obtain ⟨hs1, hq1⟩ := h9
  have hR : M1.2.2 = stdR b := by rw [hq1.1]; exact hR
  refine r_aload_n hG dX9_feed_10 rfl ?_
  refine r_lload_n hG dX9_feed_11 rfl ?_
  refine r_cVV1 hG mk_X9_7 dX9_feed_12 rfl (by decide) (ct_X9_lay (by exact hR) (s := (psh8 x s)) hs1 _) (by decide) ⟨Nat.le_refl _, Nat.le_refl _⟩ (Nat.le_of_ble_eq_true rfl) (fun M2 h9 => ?_)
  obtain ⟨hs2, hq2⟩ := h9
  have hR : M2.2.2 = stdR b := by rw [hq2.1]; exact hR
  refine r_aload_n hG dX9_feed_15 rfl ?_
  refine r_lload hG dX9_feed_16 rfl ?_
  refine r_cVV1 hG mk_X9_7 dX9_feed_18 rfl (by decide) (ct_X9_lay (by exact hR) (s := (psh8 y (psh8 x s))) hs2 _) (by decide) ⟨Nat.le_refl _, Nat.le_refl _⟩ (Nat.le_of_ble_eq_true rfl) (fun M3 h9 => ?_)
  obtain ⟨hs3, hq3⟩ := h9
  have hR : M3.2.2 = stdR b := by rw [hq3.1]; exact hR
  refine r_aload_n hG dX9_feed_21 rfl ?_
  refine r_getIv hG 2 (nI (psh8 z (psh8 y (psh8 x s))).1) fk_X9_11 dX9_feed_22 rfl (by decide) rfl hs3.1 ?_
  refine hE _ _ _ _ _ dX9_feed_25 rfl (Nat.le_refl _) (Nat.le_refl _) rfl ?_
  exact ⟨rfl, hs3, hq1.trans (hq2.trans hq3)⟩

set_option maxRecDepth 100000 in
set_option maxHeartbeats 400000 in
theorem ct_X9_thrown {M : gM} {b : Bool} (hR : M.2.2 = stdR b) : gC 0 0 0 yX9_thrown cX9_thrown 1 (some .int) 140 140 [.ref 88] M (gI (fun r M9 => r = M.1 88 0 ∧ M9 = M)) := by
  refine gC_i rfl (Nat.le_of_ble_eq_true rfl) (fun G hG hE => ?_)
  change G (140, 0, 0) 0 [some (.ref 88)] [] M
  refine r_aload_n hG dX9_thrown_0 rfl ?_
  refine r_getI hG 0 fk_X9_1 dX9_thrown_1 rfl (by decide) rfl ?_
  refine hE _ _ _ _ _ dX9_thrown_4 rfl (Nat.le_refl _) (Nat.le_refl _) rfl ?_
  exact ⟨rfl, rfl⟩


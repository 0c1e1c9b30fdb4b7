def Sz (k j : Nat) : Prop := k = 103 ∨ k = 104 ∨ k = 108 ∨ k = 110 ∨ k = 111 ∨ k = 113 ∨ k = 114 ∨ (k = 88 ∧ (j = 61 ∨ j = 37))
def Sz0 (k j : Nat) : Prop := k = 103 ∨ k = 104 ∨ k = 108 ∨ k = 110 ∨ k = 111 ∨ k = 113 ∨ k = 114 ∨ (k = 88 ∧ j = 61)
def mgn (M0 M : gM) (w : Int32) (nd v : Nat) : Prop :=
  M.1 108 v = M0.1 108 v - mmin (M0.1 108 v) w ∧ M.1 113 (400 * v + nd) = mmin (M0.1 108 v) w ∧ M.1 114 v = (if w ≤ M0.1 108 v then 0 else 1) ∧ M.1 110 v = (if w ≤ M0.1 108 v then 0 else M0.1 110 v + 1) ∧ M.1 111 v = M0.1 111 v + (if w ≤ M0.1 108 v then 0 else 1)
def mgs (M0 : gM) (W : Nat → Int32) : Nat → Int32
  | 0 => M0.1 88 61
  | i + 1 => mgs M0 W i + mmin (M0.1 108 i) (W i)
def mds (M0 : gM) (W : Nat → Int32) : Nat → Int32
  | 0 => 0
  | i + 1 => mds M0 W i + (if W i ≤ M0.1 108 i then 0 else 1)
def mgR (M0 M9 : gM) (nv nd : Nat) (W : Nat → Int32) : Prop := gEq Sz M0 M9 ∧ (∀ v, v < nv → mgn M0 M9 (W v) nd v) ∧ (∀ k v, nv ≤ v → k = 108 ∨ k = 110 ∨ k = 111 ∨ k = 114 → M9.1 k v = M0.1 k v) ∧ (∀ j, (∀ v, v < nv → j ≠ 400 * v + nd) → M9.1 113 j = M0.1 113 j) ∧ M9.1 88 61 = mgs M0 W nv ∧ M9.1 88 37 = mds M0 W nv
set_option maxRecDepth 100000 in
set_option maxHeartbeats 400000 in
theorem lp_X9_gives  {G : gJ} {P : gM → Prop} (hG : gS 3 0 0 yX9_gives.cls cX9_gives 6 G) (hE : gEv 140 0 0 cX9_gives P G) {M0 : gM} {b : Bool} (hR0 : M0.2.2 = stdR b) {nv : Nat} (hnv0 : M0.1 88 26 = nI nv) (lv : nv ≤ 12) {hh nl : Nat} {B : Nat → Bool} {A : Nat → Int32} {ST : Nat → Nat} {C : Nat → Nat × Int32} (hO0 : ordM M0 hh nl B A ST C) (ht0 : ∀ v, v < nv → ¬ (M0.1 107 v).toInt64 = 0) {nd : Nat} (ld : nd < 400) :
    ∀ (r i : Nat) (M : gM) (x4 x5 : Option Value), i + r = nv → gEq Sz0 M0 M → (∀ v, v < i → mgn M0 M (mwantV M0 v (nI nd) nl B A ST C) nd v) → (∀ k v, i ≤ v → k = 108 ∨ k = 110 ∨ k = 111 ∨ k = 114 → M.1 k v = M0.1 k v) → (∀ j, (∀ v, v < i → j ≠ 400 * v + nd) → M.1 113 j = M0.1 113 j) → M.1 88 61 = mgs M0 (fun v => mwantV M0 v (nI nd) nl B A ST C) i → (∀ M9, mgR M0 M9 nv nd (fun v => mwantV M0 v (nI nd) nl B A ST C) → P M9) → G (140, 0, 0) 4 [some (.ref 88), some (.int (nI nd)), some (.int (mds M0 (fun v => mwantV M0 v (nI nd) nl B A ST C) i)), some (.int (nI i)), x4, x5] [] M := by
  intro r
  induction r with
  | zero =>
    intro i M x4 x5 hi hq hv hr h13 h61 hP
    have hR : M.2.2 = stdR b := by rw [hq.1]; exact hR0
    have hnv : M.1 88 26 = nI nv := (hq.2 88 26 (by unfold Sz0; omega)).trans hnv0
    have hO := hO0.sm (M' := M) (fun k j h => hq.2 k j (by unfold Sz0; omega))
    refine r_iload_n hG dX9_gives_4 rfl ?_
    refine r_aload_n hG dX9_gives_5 rfl ?_
    refine r_getIv hG 26 (nI nv) fk_X9_287 dX9_gives_6 rfl (by decide) rfl hnv ?_
    refine r_icmp_ge hG 164 dX9_gives_9 (by decide) (fun hc9 => ?_) (fun hc9 => absurd (nle_f (a := nv) (b := i) (by omega) (by omega) hc9) (by omega))
    refine r_aload_n hG dX9_gives_164 rfl ?_
    refine r_iload_n hG dX9_gives_165 rfl ?_
    refine r_putI hG 37 fp_X9_305 dX9_gives_166 rfl (by decide) rfl rfl rfl ?_
    refine hE _ _ _ _ dX9_gives_169 rfl (Nat.le_refl _) (Nat.le_refl _) ?_
    have ei : i = nv := by omega
    subst ei
    refine hP _ ⟨(hq.mono (fun k j h => by unfold Sz0 at h; unfold Sz; omega)).put (by unfold Sz; omega), fun v hv9 => ?_, fun k v h1 h2 => ?_, fun j hj => ?_, ?_, gwI_s⟩
    · obtain ⟨a1, a2, a3, a4, a5⟩ := hv v hv9
      exact ⟨(gwI_n (by omega)).trans a1, (gwI_n (by omega)).trans a2, (gwI_n (by omega)).trans a3, (gwI_n (by omega)).trans a4, (gwI_n (by omega)).trans a5⟩
    · rw [gwI_n (by omega)]; exact hr k v h1 h2
    · rw [gwI_n (by omega)]; exact h13 j hj
    · rw [gwI_n (by omega)]; exact h61
  | succ r ih =>
    intro i M x4 x5 hi hq hv hr h13 h61 hP
    have hR : M.2.2 = stdR b := by rw [hq.1]; exact hR0
    have hnv : M.1 88 26 = nI nv := (hq.2 88 26 (by unfold Sz0; omega)).trans hnv0
    have hO := hO0.sm (M' := M) (fun k j h => hq.2 k j (by unfold Sz0; omega))
    refine r_iload_n hG dX9_gives_4 rfl ?_
    refine r_aload_n hG dX9_gives_5 rfl ?_
    refine r_getIv hG 26 (nI nv) fk_X9_287 dX9_gives_6 rfl (by decide) rfl hnv ?_
    refine r_icmp_ge hG 164 dX9_gives_9 (by decide) (fun hc9 => absurd (nle_t (a := nv) (b := i) (by omega) (by omega) hc9) (by omega)) (fun hc9 => ?_)
    refine r_aload_n hG dX9_gives_12 rfl ?_
    refine r_iload_n hG dX9_gives_13 rfl ?_
    refine r_iload_n hG dX9_gives_14 rfl ?_
    refine r_cVI2 hG mk_X9_315 dX9_gives_15 rfl (by decide) (ct_X9_wantOf hR hO (v := i) (by omega) (by rw [hq.2 107 i (by unfold Sz0; omega)]; exact ht0 i (by omega)) (nI nd)) (by decide) ⟨Nat.le_refl _, Nat.le_refl _⟩ (Nat.le_of_ble_eq_true rfl) (fun x9 M15 h9 => ?_)
    obtain ⟨e8, q15⟩ := h9
    have eM : ∀ k j, (105 ≤ k ∧ k ≤ 110 ∧ j = i) ∨ (k = 88 ∧ j = 37) → M.1 k j = M0.1 k j := fun k j h => by
      by_cases e : k = 108 ∨ k = 110
      · rcases h with ⟨_, _, rfl⟩ | ⟨h, _⟩
        · exact hr k _ (Nat.le_refl _) (by omega)
        · omega
      · exact hq.2 k j (by unfold Sz0; omega)
    rw [e8, mwantV_c (M := M0) eM]
    have hR : M15.2.2 = stdR b := by rw [q15.1]; exact hR
    have f108 : M15.1 108 i = M0.1 108 i := (q15.2 108 i (by unfold Sm; omega)).trans (hr 108 i (Nat.le_refl _) (by omega))
    have f110 : M15.1 110 i = M0.1 110 i := (q15.2 110 i (by unfold Sm; omega)).trans (hr 110 i (Nat.le_refl _) (by omega))
    have f111 : M15.1 111 i = M0.1 111 i := (q15.2 111 i (by unfold Sm; omega)).trans (hr 111 i (Nat.le_refl _) (by omega))
    have f61 : M15.1 88 61 = mgs M0 (fun v => mwantV M0 v (nI nd) nl B A ST C) i := (q15.2 88 61 (by unfold Sm; omega)).trans h61
    have q5 : gEq Sz0 M0 M15 := hq.trans (q15.mono (fun k j h => by unfold Sm at h; unfold Sz0; omega))
    refine r_istore hG dX9_gives_18 (by decide) ?_
    refine r_loc [some (.ref 88), some (.int (nI nd)), some (.int (mds M0 (fun v => mwantV M0 v (nI nd) nl B A ST C) i)), some (.int (nI i)), some (.int (mwantV M0 i (nI nd) nl B A ST C)), x5] rfl ?_
    refine r_aload_n hG dX9_gives_20 rfl ?_
    refine r_getR hG 36 114 fk_X9_118 dX9_gives_21 rfl (by decide) rfl (sr hR rfl) ?_
    refine r_iload_n hG dX9_gives_24 rfl ?_
    refine r_aload_n hG dX9_gives_25 rfl ?_
    refine r_getR hG 30 108 fk_X9_100 dX9_gives_26 rfl (by decide) rfl (sr hR rfl) ?_
    refine r_iload_n hG dX9_gives_29 rfl ?_
    refine r_ialdv hG i (M0.1 108 i) dX9_gives_30 rfl (by decide) rfl (by omega) (by decide) f108 ?_
    refine r_iload hG dX9_gives_31 rfl ?_
    refine r_icmp_ge hG 40 dX9_gives_33 (by decide) (fun hc33 => ?_) (fun hc33 => ?_)
    · refine r_iconst hG (0) dX9_gives_40 (by decide) ?_
      refine r_zast hG i dX9_gives_41 rfl (by decide) rfl (by omega) (by decide) rfl ?_
      refine r_iload hG dX9_gives_42 rfl ?_
      refine r_aload_n hG dX9_gives_44 rfl ?_
      refine r_getR hG 30 108 fk_X9_100 dX9_gives_45 rfl (by decide) rfl (sr hR rfl) ?_
      refine r_iload_n hG dX9_gives_48 rfl ?_
      refine r_ialdv hG i (M0.1 108 i) dX9_gives_49 rfl (by decide) rfl (by omega) (by decide) ((gwI_n (by omega)).trans f108) ?_
      refine r_cSI2 hG mk_X9_325 dX9_gives_50 (ct_X9_least _ _) (by decide) ⟨Nat.le_refl _, Nat.le_refl _⟩ (Nat.le_of_ble_eq_true rfl) (fun x9 M9 h9 => ?_)
      obtain ⟨e8, e9⟩ := h9
      rw [e8, e9]
      refine r_istore hG dX9_gives_53 (by decide) ?_
      refine r_loc [some (.ref 88), some (.int (nI nd)), some (.int (mds M0 (fun v => mwantV M0 v (nI nd) nl B A ST C) i)), some (.int (nI i)), some (.int (mwantV M0 i (nI nd) nl B A ST C)), some (.int (mmin (M0.1 108 i) (mwantV M0 i (nI nd) nl B A ST C)))] rfl ?_
      refine r_aload_n hG dX9_gives_55 rfl ?_
      refine r_getR hG 30 108 fk_X9_100 dX9_gives_56 rfl (by decide) rfl (sr hR rfl) ?_
      refine r_iload_n hG dX9_gives_59 rfl ?_
      refine r_dup2 hG dX9_gives_60 rfl rfl ?_
      refine r_ialdv hG i (M0.1 108 i) dX9_gives_61 rfl (by decide) rfl (by omega) (by decide) ((gwI_n (by omega)).trans f108) ?_
      refine r_iload hG dX9_gives_62 rfl ?_
      refine r_isub hG dX9_gives_64 ?_
      refine r_iast hG i dX9_gives_65 rfl (by decide) rfl (by omega) (by decide) ?_
      refine r_aload_n hG dX9_gives_66 rfl ?_
      refine r_getR hG 35 113 fk_X9_115 dX9_gives_67 rfl (by decide) rfl (sr hR rfl) ?_
      refine r_sipush hG (400) dX9_gives_70 (by decide) ?_
      refine r_iload_n hG dX9_gives_73 rfl ?_
      refine r_imul hG dX9_gives_74 ?_
      refine r_iload_n hG dX9_gives_75 rfl ?_
      refine r_iadd hG dX9_gives_76 ?_
      refine r_iload hG dX9_gives_77 rfl ?_
      refine r_iast hG (400 * i + nd) dX9_gives_79 rfl (by decide) (mulAdd 400 i nd) (by omega) (by decide) ?_
      refine r_aload_n hG dX9_gives_80 rfl ?_
      refine r_dup hG dX9_gives_81 rfl ?_
      refine r_getIv hG 61 (mgs M0 (fun v => mwantV M0 v (nI nd) nl B A ST C) i) fk_X9_346 dX9_gives_82 rfl (by decide) rfl (((gwI_n (by omega)).trans ((gwI_n (by omega)).trans (gwI_n (by omega)))).trans f61) ?_
      refine r_iload hG dX9_gives_85 rfl ?_
      refine r_iadd hG dX9_gives_87 ?_
      refine r_putI hG 61 fp_X9_346 dX9_gives_88 rfl (by decide) rfl rfl rfl ?_
      refine r_aload_n hG dX9_gives_91 rfl ?_
      refine r_getR hG 32 110 fk_X9_106 dX9_gives_92 rfl (by decide) rfl (sr hR rfl) ?_
      refine r_iload_n hG dX9_gives_95 rfl ?_
      refine r_aload_n hG dX9_gives_96 rfl ?_
      refine r_getR hG 36 114 fk_X9_118 dX9_gives_97 rfl (by decide) rfl (sr hR rfl) ?_
      refine r_iload_n hG dX9_gives_100 rfl ?_
      refine r_zaldv hG i (0) dX9_gives_101 rfl (by decide) rfl (by omega) (by decide) ((gwI_n (by omega)).trans ((gwI_n (by omega)).trans ((gwI_n (by omega)).trans gwI_s))) ?_
      refine r_if_eq hG 116 dX9_gives_102 (by decide) (fun hc102 => ?_) (fun hc102 => absurd hc102 (by decide))
      refine r_iconst hG (0) dX9_gives_116 (by decide) ?_
      refine r_iast hG i dX9_gives_117 rfl (by decide) rfl (by omega) (by decide) ?_
      refine r_aload_n hG dX9_gives_118 rfl ?_
      refine r_getR hG 33 111 fk_X9_109 dX9_gives_119 rfl (by decide) rfl (sr hR rfl) ?_
      refine r_iload_n hG dX9_gives_122 rfl ?_
      refine r_dup2 hG dX9_gives_123 rfl rfl ?_
      refine r_ialdv hG i (M0.1 111 i) dX9_gives_124 rfl (by decide) rfl (by omega) (by decide) (((gwI_n (by omega)).trans ((gwI_n (by omega)).trans ((gwI_n (by omega)).trans ((gwI_n (by omega)).trans (gwI_n (by omega)))))).trans f111) ?_
      refine r_aload_n hG dX9_gives_125 rfl ?_
      refine r_getR hG 36 114 fk_X9_118 dX9_gives_126 rfl (by decide) rfl (sr hR rfl) ?_
      refine r_iload_n hG dX9_gives_129 rfl ?_
      refine r_zaldv hG i (0) dX9_gives_130 rfl (by decide) rfl (by omega) (by decide) ((gwI_n (by omega)).trans ((gwI_n (by omega)).trans ((gwI_n (by omega)).trans ((gwI_n (by omega)).trans gwI_s)))) ?_
      refine r_if_eq hG 138 dX9_gives_131 (by decide) (fun hc131 => ?_) (fun hc131 => absurd hc131 (by decide))
      refine r_iconst hG (0) dX9_gives_138 (by decide) ?_
      refine r_iadd hG dX9_gives_139 ?_
      refine r_iast hG i dX9_gives_140 rfl (by decide) rfl (by omega) (by decide) ?_
      refine r_iload_n hG dX9_gives_141 rfl ?_
      refine r_aload_n hG dX9_gives_142 rfl ?_
      refine r_getR hG 36 114 fk_X9_118 dX9_gives_143 rfl (by decide) rfl (sr hR rfl) ?_
      refine r_iload_n hG dX9_gives_146 rfl ?_
      refine r_zaldv hG i (0) dX9_gives_147 rfl (by decide) rfl (by omega) (by decide) ((gwI_n (by omega)).trans ((gwI_n (by omega)).trans ((gwI_n (by omega)).trans ((gwI_n (by omega)).trans ((gwI_n (by omega)).trans gwI_s))))) ?_
      refine r_if_eq hG 155 dX9_gives_148 (by decide) (fun hc148 => ?_) (fun hc148 => absurd hc148 (by decide))
      refine r_iconst hG (0) dX9_gives_155 (by decide) ?_
      refine r_iadd hG dX9_gives_156 ?_
      refine r_istore_n hG dX9_gives_157 (by decide) ?_
      refine r_loc [some (.ref 88), some (.int (nI nd)), some (.int ((mds M0 (fun v => mwantV M0 v (nI nd) nl B A ST C) i) + (0))), some (.int (nI i)), some (.int (mwantV M0 i (nI nd) nl B A ST C)), some (.int (mmin (M0.1 108 i) (mwantV M0 i (nI nd) nl B A ST C)))] rfl ?_
      refine r_iinc hG (1) dX9_gives_158 (by decide) rfl ?_
      refine r_loc [some (.ref 88), some (.int (nI nd)), some (.int ((mds M0 (fun v => mwantV M0 v (nI nd) nl B A ST C) i) + (0))), some (.int ((nI i) + (1))), some (.int (mwantV M0 i (nI nd) nl B A ST C)), some (.int (mmin (M0.1 108 i) (mwantV M0 i (nI nd) nl B A ST C)))] rfl ?_
      refine r_goto hG 4 dX9_gives_161 (by decide) ?_
      rw [nI_1]
      have ed : mds M0 (fun v => mwantV M0 v (nI nd) nl B A ST C) i + 0 = mds M0 (fun v => mwantV M0 v (nI nd) nl B A ST C) (i + 1) := by
        show _ = mds M0 (fun v => mwantV M0 v (nI nd) nl B A ST C) i + (if (mwantV M0 i (nI nd) nl B A ST C) ≤ M0.1 108 i then (0 : Int32) else 1)
        rw [if_pos hc33]
      rw [ed]
      refine ih (i + 1) _ _ _ (by omega) ((((((q5.put (by unfold Sz0; omega)).put (by unfold Sz0; omega)).put (by unfold Sz0; omega)).put (by unfold Sz0; omega)).put (by unfold Sz0; omega)).put (by unfold Sz0; omega)) (fun v hv9 => ?_) (fun k v h1 h2 => ?_) (fun j hj => ?_) ?_ hP
      · by_cases e : v = i
        · subst e
          refine ⟨?_, ?_, ?_, ?_, ?_⟩
          · rw [gwI_n (by omega), gwI_n (by omega), gwI_n (by omega), gwI_n (by omega), gwI_s]
          · rw [gwI_n (by omega), gwI_n (by omega), gwI_n (by omega), gwI_s]
          · rw [gwI_n (by omega), gwI_n (by omega), gwI_n (by omega), gwI_n (by omega), gwI_n (by omega), gwI_s, if_pos hc33]
          · rw [gwI_n (by omega), gwI_s, if_pos hc33]
          · rw [gwI_s, if_pos hc33]
        · obtain ⟨a1, a2, a3, a4, a5⟩ := hv v (by omega)
          have hz : ∀ c j, (c = 108 ∨ c = 110 ∨ c = 111 ∨ c = 114) → j ≠ i → (gwI (gwI (gwI (gwI (gwI (gwI M15 114 i (0)) 108 i ((M0.1 108 i) - (mmin (M0.1 108 i) (mwantV M0 i (nI nd) nl B A ST C)))) 113 (400 * i + nd) (mmin (M0.1 108 i) (mwantV M0 i (nI nd) nl B A ST C))) 88 61 ((mgs M0 (fun v => mwantV M0 v (nI nd) nl B A ST C) i) + (mmin (M0.1 108 i) (mwantV M0 i (nI nd) nl B A ST C)))) 110 i (0)) 111 i ((M0.1 111 i) + (0))).1 c j = M.1 c j := by
            intro c j hc hj
            rw [gwI_n (by omega), gwI_n (by omega), gwI_n (by omega), gwI_n (by omega), gwI_n (by omega), gwI_n (by omega)]
            exact q15.2 c j (by unfold Sm; omega)
          refine ⟨(hz 108 v (by omega) e).trans a1, ?_, (hz 114 v (by omega) e).trans a3, (hz 110 v (by omega) e).trans a4, (hz 111 v (by omega) e).trans a5⟩
          rw [gwI_n (by omega), gwI_n (by omega), gwI_n (by omega), gwI_n (by omega), gwI_n (by omega), gwI_n (by omega), q15.2 113 _ (by unfold Sm; omega)]
          exact a2
      · rw [gwI_n (by omega), gwI_n (by omega), gwI_n (by omega), gwI_n (by omega), gwI_n (by omega), gwI_n (by omega), q15.2 k v (by unfold Sm; omega)]
        exact hr k v (by omega) h2
      · have := hj i (by omega)
        rw [gwI_n (by omega), gwI_n (by omega), gwI_n (by omega), gwI_n (by omega), gwI_n (by omega), gwI_n (by omega), q15.2 113 j (by unfold Sm; omega)]
        exact h13 j (fun v hv9 => hj v (by omega))
      · rw [gwI_n (by omega), gwI_n (by omega), gwI_s]
        rfl
    · refine r_iconst hG (1) dX9_gives_36 (by decide) ?_
      refine r_goto hG 41 dX9_gives_37 (by decide) ?_
      refine r_zast hG i dX9_gives_41 rfl (by decide) rfl (by omega) (by decide) rfl ?_
      refine r_iload hG dX9_gives_42 rfl ?_
      refine r_aload_n hG dX9_gives_44 rfl ?_
      refine r_getR hG 30 108 fk_X9_100 dX9_gives_45 rfl (by decide) rfl (sr hR rfl) ?_
      refine r_iload_n hG dX9_gives_48 rfl ?_
      refine r_ialdv hG i (M0.1 108 i) dX9_gives_49 rfl (by decide) rfl (by omega) (by decide) ((gwI_n (by omega)).trans f108) ?_
      refine r_cSI2 hG mk_X9_325 dX9_gives_50 (ct_X9_least _ _) (by decide) ⟨Nat.le_refl _, Nat.le_refl _⟩ (Nat.le_of_ble_eq_true rfl) (fun x9 M9 h9 => ?_)
      obtain ⟨e8, e9⟩ := h9
      rw [e8, e9]
      refine r_istore hG dX9_gives_53 (by decide) ?_
      refine r_loc [some (.ref 88), some (.int (nI nd)), some (.int (mds M0 (fun v => mwantV M0 v (nI nd) nl B A ST C) i)), some (.int (nI i)), some (.int (mwantV M0 i (nI nd) nl B A ST C)), some (.int (mmin (M0.1 108 i) (mwantV M0 i (nI nd) nl B A ST C)))] rfl ?_
      refine r_aload_n hG dX9_gives_55 rfl ?_
      refine r_getR hG 30 108 fk_X9_100 dX9_gives_56 rfl (by decide) rfl (sr hR rfl) ?_
      refine r_iload_n hG dX9_gives_59 rfl ?_
      refine r_dup2 hG dX9_gives_60 rfl rfl ?_
      refine r_ialdv hG i (M0.1 108 i) dX9_gives_61 rfl (by decide) rfl (by omega) (by decide) ((gwI_n (by omega)).trans f108) ?_
      refine r_iload hG dX9_gives_62 rfl ?_
      refine r_isub hG dX9_gives_64 ?_
      refine r_iast hG i dX9_gives_65 rfl (by decide) rfl (by omega) (by decide) ?_
      refine r_aload_n hG dX9_gives_66 rfl ?_
      refine r_getR hG 35 113 fk_X9_115 dX9_gives_67 rfl (by decide) rfl (sr hR rfl) ?_
      refine r_sipush hG (400) dX9_gives_70 (by decide) ?_
      refine r_iload_n hG dX9_gives_73 rfl ?_
      refine r_imul hG dX9_gives_74 ?_
      refine r_iload_n hG dX9_gives_75 rfl ?_
      refine r_iadd hG dX9_gives_76 ?_
      refine r_iload hG dX9_gives_77 rfl ?_
      refine r_iast hG (400 * i + nd) dX9_gives_79 rfl (by decide) (mulAdd 400 i nd) (by omega) (by decide) ?_
      refine r_aload_n hG dX9_gives_80 rfl ?_
      refine r_dup hG dX9_gives_81 rfl ?_
      refine r_getIv hG 61 (mgs M0 (fun v => mwantV M0 v (nI nd) nl B A ST C) i) fk_X9_346 dX9_gives_82 rfl (by decide) rfl (((gwI_n (by omega)).trans ((gwI_n (by omega)).trans (gwI_n (by omega)))).trans f61) ?_
      refine r_iload hG dX9_gives_85 rfl ?_
      refine r_iadd hG dX9_gives_87 ?_
      refine r_putI hG 61 fp_X9_346 dX9_gives_88 rfl (by decide) rfl rfl rfl ?_
      refine r_aload_n hG dX9_gives_91 rfl ?_
      refine r_getR hG 32 110 fk_X9_106 dX9_gives_92 rfl (by decide) rfl (sr hR rfl) ?_
      refine r_iload_n hG dX9_gives_95 rfl ?_
      refine r_aload_n hG dX9_gives_96 rfl ?_
      refine r_getR hG 36 114 fk_X9_118 dX9_gives_97 rfl (by decide) rfl (sr hR rfl) ?_
      refine r_iload_n hG dX9_gives_100 rfl ?_
      refine r_zaldv hG i (1) dX9_gives_101 rfl (by decide) rfl (by omega) (by decide) ((gwI_n (by omega)).trans ((gwI_n (by omega)).trans ((gwI_n (by omega)).trans gwI_s))) ?_
      refine r_if_eq hG 116 dX9_gives_102 (by decide) (fun hc102 => absurd hc102 (by decide)) (fun hc102 => ?_)
      refine r_aload_n hG dX9_gives_105 rfl ?_
      refine r_getR hG 32 110 fk_X9_106 dX9_gives_106 rfl (by decide) rfl (sr hR rfl) ?_
      refine r_iload_n hG dX9_gives_109 rfl ?_
      refine r_ialdv hG i (M0.1 110 i) dX9_gives_110 rfl (by decide) rfl (by omega) (by decide) (((gwI_n (by omega)).trans ((gwI_n (by omega)).trans ((gwI_n (by omega)).trans (gwI_n (by omega))))).trans f110) ?_
      refine r_iconst hG (1) dX9_gives_111 (by decide) ?_
      refine r_iadd hG dX9_gives_112 ?_
      refine r_goto hG 117 dX9_gives_113 (by decide) ?_
      refine r_iast hG i dX9_gives_117 rfl (by decide) rfl (by omega) (by decide) ?_
      refine r_aload_n hG dX9_gives_118 rfl ?_
      refine r_getR hG 33 111 fk_X9_109 dX9_gives_119 rfl (by decide) rfl (sr hR rfl) ?_
      refine r_iload_n hG dX9_gives_122 rfl ?_
      refine r_dup2 hG dX9_gives_123 rfl rfl ?_
      refine r_ialdv hG i (M0.1 111 i) dX9_gives_124 rfl (by decide) rfl (by omega) (by decide) (((gwI_n (by omega)).trans ((gwI_n (by omega)).trans ((gwI_n (by omega)).trans ((gwI_n (by omega)).trans (gwI_n (by omega)))))).trans f111) ?_
      refine r_aload_n hG dX9_gives_125 rfl ?_
      refine r_getR hG 36 114 fk_X9_118 dX9_gives_126 rfl (by decide) rfl (sr hR rfl) ?_
      refine r_iload_n hG dX9_gives_129 rfl ?_
      refine r_zaldv hG i (1) dX9_gives_130 rfl (by decide) rfl (by omega) (by decide) ((gwI_n (by omega)).trans ((gwI_n (by omega)).trans ((gwI_n (by omega)).trans ((gwI_n (by omega)).trans gwI_s)))) ?_
      refine r_if_eq hG 138 dX9_gives_131 (by decide) (fun hc131 => absurd hc131 (by decide)) (fun hc131 => ?_)
      refine r_iconst hG (1) dX9_gives_134 (by decide) ?_
      refine r_goto hG 139 dX9_gives_135 (by decide) ?_
      refine r_iadd hG dX9_gives_139 ?_
      refine r_iast hG i dX9_gives_140 rfl (by decide) rfl (by omega) (by decide) ?_
      refine r_iload_n hG dX9_gives_141 rfl ?_
      refine r_aload_n hG dX9_gives_142 rfl ?_
      refine r_getR hG 36 114 fk_X9_118 dX9_gives_143 rfl (by decide) rfl (sr hR rfl) ?_
      refine r_iload_n hG dX9_gives_146 rfl ?_
      refine r_zaldv hG i (1) dX9_gives_147 rfl (by decide) rfl (by omega) (by decide) ((gwI_n (by omega)).trans ((gwI_n (by omega)).trans ((gwI_n (by omega)).trans ((gwI_n (by omega)).trans ((gwI_n (by omega)).trans gwI_s))))) ?_
      refine r_if_eq hG 155 dX9_gives_148 (by decide) (fun hc148 => absurd hc148 (by decide)) (fun hc148 => ?_)
      refine r_iconst hG (1) dX9_gives_151 (by decide) ?_
      refine r_goto hG 156 dX9_gives_152 (by decide) ?_
      refine r_iadd hG dX9_gives_156 ?_
      refine r_istore_n hG dX9_gives_157 (by decide) ?_
      refine r_loc [some (.ref 88), some (.int (nI nd)), some (.int ((mds M0 (fun v => mwantV M0 v (nI nd) nl B A ST C) i) + (1))), some (.int (nI i)), some (.int (mwantV M0 i (nI nd) nl B A ST C)), some (.int (mmin (M0.1 108 i) (mwantV M0 i (nI nd) nl B A ST C)))] rfl ?_
      refine r_iinc hG (1) dX9_gives_158 (by decide) rfl ?_
      refine r_loc [some (.ref 88), some (.int (nI nd)), some (.int ((mds M0 (fun v => mwantV M0 v (nI nd) nl B A ST C) i) + (1))), some (.int ((nI i) + (1))), some (.int (mwantV M0 i (nI nd) nl B A ST C)), some (.int (mmin (M0.1 108 i) (mwantV M0 i (nI nd) nl B A ST C)))] rfl ?_
      refine r_goto hG 4 dX9_gives_161 (by decide) ?_
      rw [nI_1]
      have ed : mds M0 (fun v => mwantV M0 v (nI nd) nl B A ST C) i + 1 = mds M0 (fun v => mwantV M0 v (nI nd) nl B A ST C) (i + 1) := by
        show _ = mds M0 (fun v => mwantV M0 v (nI nd) nl B A ST C) i + (if (mwantV M0 i (nI nd) nl B A ST C) ≤ M0.1 108 i then (0 : Int32) else 1)
        rw [if_neg hc33]
      rw [ed]
      refine ih (i + 1) _ _ _ (by omega) ((((((q5.put (by unfold Sz0; omega)).put (by unfold Sz0; omega)).put (by unfold Sz0; omega)).put (by unfold Sz0; omega)).put (by unfold Sz0; omega)).put (by unfold Sz0; omega)) (fun v hv9 => ?_) (fun k v h1 h2 => ?_) (fun j hj => ?_) ?_ hP
      · by_cases e : v = i
        · subst e
          refine ⟨?_, ?_, ?_, ?_, ?_⟩
          · rw [gwI_n (by omega), gwI_n (by omega), gwI_n (by omega), gwI_n (by omega), gwI_s]
          · rw [gwI_n (by omega), gwI_n (by omega), gwI_n (by omega), gwI_s]
          · rw [gwI_n (by omega), gwI_n (by omega), gwI_n (by omega), gwI_n (by omega), gwI_n (by omega), gwI_s, if_neg hc33]
          · rw [gwI_n (by omega), gwI_s, if_neg hc33]
          · rw [gwI_s, if_neg hc33]
        · obtain ⟨a1, a2, a3, a4, a5⟩ := hv v (by omega)
          have hz : ∀ c j, (c = 108 ∨ c = 110 ∨ c = 111 ∨ c = 114) → j ≠ i → (gwI (gwI (gwI (gwI (gwI (gwI M15 114 i (1)) 108 i ((M0.1 108 i) - (mmin (M0.1 108 i) (mwantV M0 i (nI nd) nl B A ST C)))) 113 (400 * i + nd) (mmin (M0.1 108 i) (mwantV M0 i (nI nd) nl B A ST C))) 88 61 ((mgs M0 (fun v => mwantV M0 v (nI nd) nl B A ST C) i) + (mmin (M0.1 108 i) (mwantV M0 i (nI nd) nl B A ST C)))) 110 i ((M0.1 110 i) + (1))) 111 i ((M0.1 111 i) + (1))).1 c j = M.1 c j := by
            intro c j hc hj
            rw [gwI_n (by omega), gwI_n (by omega), gwI_n (by omega), gwI_n (by omega), gwI_n (by omega), gwI_n (by omega)]
            exact q15.2 c j (by unfold Sm; omega)
          refine ⟨(hz 108 v (by omega) e).trans a1, ?_, (hz 114 v (by omega) e).trans a3, (hz 110 v (by omega) e).trans a4, (hz 111 v (by omega) e).trans a5⟩
          rw [gwI_n (by omega), gwI_n (by omega), gwI_n (by omega), gwI_n (by omega), gwI_n (by omega), gwI_n (by omega), q15.2 113 _ (by unfold Sm; omega)]
          exact a2
      · rw [gwI_n (by omega), gwI_n (by omega), gwI_n (by omega), gwI_n (by omega), gwI_n (by omega), gwI_n (by omega), q15.2 k v (by unfold Sm; omega)]
        exact hr k v (by omega) h2
      · have := hj i (by omega)
        rw [gwI_n (by omega), gwI_n (by omega), gwI_n (by omega), gwI_n (by omega), gwI_n (by omega), gwI_n (by omega), q15.2 113 j (by unfold Sm; omega)]
        exact h13 j (fun v hv9 => hj v (by omega))
      · rw [gwI_n (by omega), gwI_n (by omega), gwI_s]
        rfl

set_option maxRecDepth 100000 in
set_option maxHeartbeats 400000 in
theorem ct_X9_gives {M : gM} {b : Bool} (hR : M.2.2 = stdR b) {nv : Nat} (hnv : M.1 88 26 = nI nv) (lv : nv ≤ 12) {hh nl : Nat} {B : Nat → Bool} {A : Nat → Int32} {ST : Nat → Nat} {C : Nat → Nat × Int32} (hO : ordM M hh nl B A ST C) (ht : ∀ v, v < nv → ¬ (M.1 107 v).toInt64 = 0) {nd : Nat} (ld : nd < 400) : gC 3 0 0 yX9_gives cX9_gives 6 none 140 140 [.ref 88, .int (nI nd)] M (gV (fun M9 => mgR M M9 nv nd (fun v => mwantV M v (nI nd) nl B A ST C))) := by
  refine gC_v rfl (Nat.le_of_ble_eq_true rfl) (fun G hG hE => ?_)
  change G (140, 0, 0) 0 [some (.ref 88), some (.int (nI nd)), none, none, none, none] [] M
  refine r_iconst hG (0) dX9_gives_0 (by decide) ?_
  refine r_istore_n hG dX9_gives_1 (by decide) ?_
  refine r_loc [some (.ref 88), some (.int (nI nd)), some (.int (0)), none, none, none] rfl ?_
  refine r_iconst hG (0) dX9_gives_2 (by decide) ?_
  refine r_istore_n hG dX9_gives_3 (by decide) ?_
  refine r_loc [some (.ref 88), some (.int (nI nd)), some (.int (0)), some (.int (0)), none, none] rfl ?_
  exact lp_X9_gives hG hE hR hnv lv hO ht ld nv 0 M _ _ (by omega) gEq.rf (fun v hv => absurd hv (by omega)) (fun _ _ _ _ => rfl) (fun _ _ => rfl) rfl (fun M9 h9 => h9)

theorem bst_ex {D Ms : Nat → Int32} {se : Nat → Nat → Nat} {z : Int32 × (Nat → Int32)} : ∀ (n : Nat), (∃ m, m < n ∧ ¬ D m < 0) → ∃ m, m < n ∧ ¬ D m < 0 ∧ mBst D Ms se z n = (D m, Ms m, fun k => nI (se m k)) := by
  intro n
  induction n with
  | zero => rintro ⟨m, hm, -⟩; omega
  | succ n ih =>
    intro h
    by_cases hn : ∃ m, m < n ∧ ¬ D m < 0
    · obtain ⟨m, h1, h2, h3⟩ := ih hn
      by_cases hc : ¬ D n < 0 ∧ ((mBst D Ms se z n).1 < 0 ∨ D n < (mBst D Ms se z n).1 ∨ (D n = (mBst D Ms se z n).1 ∧ Ms n < (mBst D Ms se z n).2.1))
      · exact ⟨n, by omega, hc.1, bst_y hc⟩
      · exact ⟨m, by omega, h2, (bst_n hc).trans h3⟩
    · obtain ⟨m, h1, h2⟩ := h
      have em : m = n := by
        rcases Nat.lt_or_ge m n with q | q
        · exact absurd ⟨m, q, h2⟩ hn
        · omega
      subst em
      have h0 : ∀ k, k ≤ m → mBst D Ms se z k = (-1, z) := by
        intro k
        induction k with
        | zero => intro _; rfl
        | succ k ihk =>
          intro hk
          have hk2 : D k < 0 := by
            by_cases q : D k < 0
            · exact q
            · exact absurd ⟨k, by omega, q⟩ hn
          rw [bst_n (fun q => q.1 hk2)]
          exact ihk (by omega)
      refine ⟨m, by omega, h2, bst_y ⟨h2, Or.inl ?_⟩⟩
      rw [h0 m (Nat.le_refl m)]
      exact (by decide : (-1 : Int32) < 0)
theorem sg_last {nt c k : Nat} (hk : k < c) : sg nt c ((nt + 1) ^ c - 1) k = nt := by
  unfold sg
  have hp : 0 < nt + 1 := by omega
  have e : (nt + 1) ^ c = (nt + 1) ^ (c - 1 - k) * (nt + 1) ^ (k + 1) := by rw [← Nat.pow_add]; congr 1; omega
  have h1 : 0 < (nt + 1) ^ (c - 1 - k) := Nat.pow_pos hp
  have h2 : ((nt + 1) ^ c - 1) / (nt + 1) ^ (c - 1 - k) = (nt + 1) ^ (k + 1) - 1 := by
    rw [e]
    have h3 : 0 < (nt + 1) ^ (k + 1) := Nat.pow_pos hp
    have := Nat.mul_sub_div 0 ((nt + 1) ^ (c - 1 - k)) ((nt + 1) ^ (k + 1)) (Nat.mul_pos h1 h3)
    rw [Nat.zero_div] at this
    simpa using this
  rw [h2, Nat.pow_succ]
  have h3 : 0 < (nt + 1) ^ k := Nat.pow_pos hp
  obtain ⟨q, hq⟩ : ∃ q, (nt + 1) ^ k = q + 1 := ⟨_, (Nat.sub_add_cancel h3).symm⟩
  rw [hq, Nat.add_mul, Nat.one_mul, show q * (nt + 1) + (nt + 1) - 1 = nt + (nt + 1) * q by rw [Nat.mul_comm]; omega, Nat.add_mul_mod_self_left, Nat.mod_eq_of_lt (by omega)]
theorem mtry_none {M : gM} {wv sp : Nat → Nat} {nt c : Nat} {se : Nat → Nat} (hc : c ≤ 6) (h : ∀ k, k < c → se k = nt) : ∀ n k (ml pl : Nat → Int32) (d : Nat), k + n = c → d ≤ k → ∃ e, e ≤ c ∧ mtry M wv sp nt se n k ml pl (nI d) = nI e := by
  intro n
  induction n with
  | zero => intro k ml pl d h1 h2; exact ⟨d, by omega, rfl⟩
  | succ n ih =>
    intro k ml pl d h1 h2
    unfold mtry
    rw [if_neg (by rw [h k (by omega)]; omega)]
    split
    · rw [nI_1]; exact ih (k + 1) ml pl (d + 1) (by omega) (by omega)
    · rw [Int32.add_zero]; exact ih (k + 1) ml pl d (by omega) (by omega)
/-- the plan that findPlan keeps -/
theorem bstR.be {M0 M : gM} {wv sp : Nat → Nat} {nt c : Nat} (hc : c ≤ 6) (h : bstR M0 M wv sp nt c ((nt + 1) ^ c)) : ∃ m, m < (nt + 1) ^ c ∧ ¬ bD M0 wv sp nt c m < 0 ∧ mBst (bD M0 wv sp nt c) (bMs M0 wv sp nt c) (sg nt c) (M0.1 88 58, M0.1 129) ((nt + 1) ^ c) = (bD M0 wv sp nt c m, bMs M0 wv sp nt c m, fun k => nI (sg nt c m k)) ∧ M.1 88 57 = bD M0 wv sp nt c m ∧ M.1 88 58 = bMs M0 wv sp nt c m ∧ ∀ k, k < c → M.1 129 k = nI (sg nt c m k) := by
  have hp : 0 < (nt + 1) ^ c := Nat.pow_pos (by omega)
  obtain ⟨m, h1, h2, h3⟩ := bst_ex (D := bD M0 wv sp nt c) (Ms := bMs M0 wv sp nt c) (se := sg nt c) (z := (M0.1 88 58, M0.1 129)) ((nt + 1) ^ c) ⟨(nt + 1) ^ c - 1, by omega, by
    unfold bD
    obtain ⟨e, he, h⟩ := mtry_none (M := M0) (wv := wv) (sp := sp) (nt := nt) (c := c) (se := sg nt c ((nt + 1) ^ c - 1)) hc (fun k hk => sg_last hk) c 0 (M0.1 121) (M0.1 117) 0 (by omega) (by omega)
    rw [show (0 : Int32) = nI 0 from rfl, h]
    exact nI_pos (by omega)⟩
  refine ⟨m, h1, h2, h3, ?_, ?_, fun k hk => ?_⟩
  · rw [h.2.1, h3]
  · rw [h.2.2.1, h3]
  · rw [h.2.2.2 k hk, h3]
/-- one day of the model; nd is the day that comes -/
def mdayR (M M9 : gM) (ns nt nv nl nw : Nat) (sp : Nat → Nat) (B : Nat → Bool) (A : Nat → Int32) (ST : Nat → Nat) (C : Nat → Nat × Int32) : Prop :=
  ∃ Mb Md be, fpR (mGrow ns nv M) Mb nt nv sp (fun v => mwantV (mGrow ns nv M) v (nI (nw + 1)) nl B A ST C) (mlk (mGrow ns nv M) (nI (nw + 1)) nl B A ST C) ∧ (∀ k, k < min6 (ndc (mlk (mGrow ns nv M) (nI (nw + 1)) nl B A ST C) nv) → Mb.1 129 k = nI (be k) ∧ be k ≤ nt) ∧ mgR (itr (mstep be (whoN (mlk (mGrow ns nv M) (nI (nw + 1)) nl B A ST C) nv) sp nt) (min6 (ndc (mlk (mGrow ns nv M) (nI (nw + 1)) nl B A ST C) nv)) (itr fmRest nt Mb)) Md nv (nw + 1) (fun v => mwantV (itr (mstep be (whoN (mlk (mGrow ns nv M) (nI (nw + 1)) nl B A ST C) nv) sp nt) (min6 (ndc (mlk (mGrow ns nv M) (nI (nw + 1)) nl B A ST C) nv)) (itr fmRest nt Mb)) v (nI (nw + 1)) nl B A ST C) ∧ M9 = gwI Md 88 25 (nI (nw + 1))
/-- what a day of the model may write -/
def Se (k j : Nat) : Prop := Sx k j ∨ Sy k j ∨ Sz k j ∨ (k = 88 ∧ j = 25)
theorem mdayR.eq {M M9 : gM} {ns nt nv nl nw : Nat} {sp : Nat → Nat} {B : Nat → Bool} {A : Nat → Int32} {ST : Nat → Nat} {C : Nat → Nat × Int32} (h : mdayR M M9 ns nt nv nl nw sp B A ST C) : gEq Se M M9 ∧ M9.1 88 25 = nI (nw + 1) := by
  obtain ⟨Mb, Md, be, h1, -, h2, rfl⟩ := h
  refine ⟨?_, gwI_s⟩
  have hy : ∀ k j, Sy k j → Se k j := fun k j h => Or.inr (Or.inl h)
  refine gEq.put ?_ (Or.inr (Or.inr (Or.inr ⟨rfl, rfl⟩)))
  exact (((mGrow_eq.mono hy).trans (h1.eq.mono (fun k j h => Or.inl h))).trans (((itr_e (fun _ _ => fmRest_eq) _ _).trans (itr_e (fun _ _ => mstep_eq) _ _)).mono hy)).trans (h2.1.mono (fun k j h => Or.inr (Or.inr (Or.inl h))))
def mdaysR (ns nt nv nl : Nat) (sp : Nat → Nat) (B : Nat → Bool) (A : Nat → Int32) (ST : Nat → Nat) (C : Nat → Nat × Int32) (nw : Nat) : Nat → gM → gM → Prop
  | 0, M, M9 => M9 = M
  | n + 1, M, M9 => ∃ M1, mdaysR ns nt nv nl sp B A ST C nw n M M1 ∧ mdayR M1 M9 ns nt nv nl (nw + n) sp B A ST C
theorem mdaysR.eq {ns nt nv nl : Nat} {sp : Nat → Nat} {B : Nat → Bool} {A : Nat → Int32} {ST : Nat → Nat} {C : Nat → Nat × Int32} {nw : Nat} : ∀ {n : Nat} {M M9 : gM}, mdaysR ns nt nv nl sp B A ST C nw n M M9 → M.1 88 25 = nI nw → gEq Se M M9 ∧ M9.1 88 25 = nI (nw + n)
  | 0, M, M9, h, hw => by cases h; exact ⟨gEq.rf, hw⟩
  | n + 1, M, M9, ⟨M1, h1, h2⟩, hw => ⟨(mdaysR.eq h1 hw).1.trans h2.eq.1, h2.eq.2⟩
set_option maxRecDepth 100000 in
set_option maxHeartbeats 400000 in
theorem lp_X9_days  {G : gJ} {P : Int32 → gM → Prop} (hG : gS 5 0 0 yX9_days.cls cX9_days 3 G) (hE : gEi 140 0 0 cX9_days .int P G) {M0 : gM} {b : Bool} (hR0 : M0.2.2 = stdR b) {nv ns nt nb : Nat} (hnv0 : M0.1 88 26 = nI nv) (lv : nv ≤ 12) (hns0 : M0.1 88 38 = nI ns) (ls : ns ≤ 4) (hnt0 : M0.1 88 43 = nI nt) (lt : nt ≤ 4) (hnb0 : M0.1 88 62 = nI nb) (lb : nb ≤ 10) {hh nl : Nat} {B : Nat → Bool} {A : Nat → Int32} {ST : Nat → Nat} {C : Nat → Nat × Int32} (hO0 : ordM M0 hh nl B A ST C) (ht0 : ∀ v, v < nv → ¬ (M0.1 107 v).toInt64 = 0) {sp : Nat → Nat} (hsp0 : ∀ t, t < nt → M0.1 119 t = nI (sp t) ∧ sp t < ns) {nw : Nat} (hnw0 : M0.1 88 25 = nI nw) (lw : nw < 400) {n : Nat} (ln : nw + n < 400) :
    ∀ (r i : Nat) (M : gM), i + r = n → mdaysR ns nt nv nl sp B A ST C nw i M0 M → (∀ M9, mdaysR ns nt nv nl sp B A ST C nw n M0 M9 → P (nI (nw + n)) M9) → G (140, 0, 0) 31 [some (.ref 88), some (.int (nI n)), some (.int (nI i))] [] M := by
  intro r
  induction r with
  | zero =>
    intro i M hi hd hP
    obtain ⟨hq, h25⟩ := hd.eq hnw0
    have hR : M.2.2 = stdR b := by rw [hq.1]; exact hR0
    have hnv : M.1 88 26 = nI nv := (hq.2 88 26 (by unfold Se Sx Sy Sz; omega)).trans hnv0
    have hns : M.1 88 38 = nI ns := (hq.2 88 38 (by unfold Se Sx Sy Sz; omega)).trans hns0
    have hnt : M.1 88 43 = nI nt := (hq.2 88 43 (by unfold Se Sx Sy Sz; omega)).trans hnt0
    have hnb : M.1 88 62 = nI nb := (hq.2 88 62 (by unfold Se Sx Sy Sz; omega)).trans hnb0
    have hO := hO0.sm (M' := M) (fun k j h => hq.2 k j (by unfold Se Sx Sy Sz; omega))
    have ht : ∀ v, v < nv → ¬ (M.1 107 v).toInt64 = 0 := fun v hv => by rw [hq.2 107 v (by unfold Se Sx Sy Sz; omega)]; exact ht0 v hv
    have hsp : ∀ t, t < nt → M.1 119 t = nI (sp t) ∧ sp t < ns := fun t h => ⟨(hq.2 119 t (by unfold Se Sx Sy Sz; omega)).trans (hsp0 t h).1, (hsp0 t h).2⟩
    refine r_iload_n hG dX9_days_31 rfl ?_
    refine r_iload_n hG dX9_days_32 rfl ?_
    refine r_icmp_ge hG 80 dX9_days_33 (by decide) (fun hc33 => ?_) (fun hc33 => absurd (nle_f (a := n) (b := i) (by omega) (by omega) hc33) (by omega))
    refine r_aload_n hG dX9_days_80 rfl ?_
    refine r_getIv hG 25 (nI (nw + i)) fk_X9_312 dX9_days_81 rfl (by decide) rfl h25 ?_
    refine hE _ _ _ _ _ dX9_days_84 rfl (Nat.le_refl _) (Nat.le_refl _) rfl ?_
    have ei : i = n := by omega
    subst ei
    exact hP M hd
  | succ r ih =>
    intro i M hi hd hP
    obtain ⟨hq, h25⟩ := hd.eq hnw0
    have hR : M.2.2 = stdR b := by rw [hq.1]; exact hR0
    have hnv : M.1 88 26 = nI nv := (hq.2 88 26 (by unfold Se Sx Sy Sz; omega)).trans hnv0
    have hns : M.1 88 38 = nI ns := (hq.2 88 38 (by unfold Se Sx Sy Sz; omega)).trans hns0
    have hnt : M.1 88 43 = nI nt := (hq.2 88 43 (by unfold Se Sx Sy Sz; omega)).trans hnt0
    have hnb : M.1 88 62 = nI nb := (hq.2 88 62 (by unfold Se Sx Sy Sz; omega)).trans hnb0
    have hO := hO0.sm (M' := M) (fun k j h => hq.2 k j (by unfold Se Sx Sy Sz; omega))
    have ht : ∀ v, v < nv → ¬ (M.1 107 v).toInt64 = 0 := fun v hv => by rw [hq.2 107 v (by unfold Se Sx Sy Sz; omega)]; exact ht0 v hv
    have hsp : ∀ t, t < nt → M.1 119 t = nI (sp t) ∧ sp t < ns := fun t h => ⟨(hq.2 119 t (by unfold Se Sx Sy Sz; omega)).trans (hsp0 t h).1, (hsp0 t h).2⟩
    refine r_iload_n hG dX9_days_31 rfl ?_
    refine r_iload_n hG dX9_days_32 rfl ?_
    refine r_icmp_ge hG 80 dX9_days_33 (by decide) (fun hc33 => absurd (nle_t (a := n) (b := i) (by omega) (by omega) hc33) (by omega)) (fun hc33 => ?_)
    refine r_aload_n hG dX9_days_36 rfl ?_
    refine r_cVV0 hG mk_X9_349 dX9_days_37 rfl (by decide) (ct_X9_springsGrow hR hnv lv hns ls) (by decide) ⟨Nat.le_refl _, Nat.le_refl _⟩ (Nat.le_of_ble_eq_true rfl) (fun M37 h9 => ?_)
    rw [h9]
    have hR : (mGrow ns nv M).2.2 = stdR b := by rw [mGrow_eq.1]; exact hR
    refine r_aload_n hG dX9_days_40 rfl ?_
    refine r_aload_n hG dX9_days_41 rfl ?_
    refine r_getIv hG 25 (nI (nw + i)) fk_X9_312 dX9_days_42 rfl (by decide) rfl ((mGrow_eq.2 88 25 (by unfold Sy; omega)).trans h25) ?_
    refine r_iconst hG (1) dX9_days_45 (by decide) ?_
    refine r_iadd hG dX9_days_46 ?_
    refine r_top (nI (nw + i + 1)) (nI_1 _) ?_
    refine r_cVV1 hG mk_X9_343 dX9_days_47 rfl (by decide) (ct_X9_findPlan (M := (mGrow ns nv M)) (by exact hR) ((mGrow_eq.2 88 26 (by unfold Sy; omega)).trans hnv) lv ((mGrow_eq.2 88 38 (by unfold Sy; omega)).trans hns) ls ((mGrow_eq.2 88 43 (by unfold Sy; omega)).trans hnt) lt ((mGrow_eq.2 88 62 (by unfold Sy; omega)).trans hnb) lb (hO.sm (fun k j h => mGrow_eq.2 k j (by unfold Sy; omega))) (fun v hv => by rw [(mGrow_eq.2 107 v (by unfold Sy; omega))]; exact ht v hv) (fun t h => ⟨(mGrow_eq.2 119 t (by unfold Sy; omega)).trans (hsp t h).1, (hsp t h).2⟩) (nI (nw + i + 1))) (by decide) ⟨Nat.le_refl _, Nat.le_refl _⟩ (Nat.le_of_ble_eq_true rfl) (fun M47 h9 => ?_)
    have h47 : fpR (mGrow ns nv M) M47 nt nv sp (fun v => mwantV (mGrow ns nv M) v (nI (nw + i + 1)) nl B A ST C) (mlk (mGrow ns nv M) (nI (nw + i + 1)) nl B A ST C) := h9
    have hR : M47.2.2 = stdR b := by rw [h47.eq.1]; exact hR
    have e47 : ∀ k j, ¬ Sx k j → ¬ Sy k j → M47.1 k j = M.1 k j := fun k j h1 h2 => (h47.eq.2 k j h1).trans (mGrow_eq.2 k j h2)
    obtain ⟨be, hbe⟩ : ∃ be : Nat → Nat, ∀ k, k < (min6 (ndc (mlk (mGrow ns nv M) (nI (nw + i + 1)) nl B A ST C) nv)) → M47.1 129 k = nI (be k) ∧ be k ≤ nt := by
      obtain ⟨M2, -, hb⟩ := id h47
      obtain ⟨m, -, -, -, -, -, hm⟩ := hb.be (min6_le _)
      exact ⟨sg nt (min6 (ndc (mlk (mGrow ns nv M) (nI (nw + i + 1)) nl B A ST C) nv)) m, fun k hk => ⟨hm k hk, sg_le _ _ _ _⟩⟩
    refine r_aload_n hG dX9_days_50 rfl ?_
    refine r_cVV0 hG mk_X9_352 dX9_days_51 rfl (by decide) (ct_X9_brings (by exact hR) ((e47 88 43 (by unfold Sx; omega) (by unfold Sy; omega)).trans hnt) lt h47.n.1 (min6_le _) (fun k hk => ⟨(h47.n.2.2 k hk).1, by have := (h47.n.2.2 k hk).2; omega⟩) (fun t h => ⟨(e47 119 t (by unfold Sx; omega) (by unfold Sy; omega)).trans (hsp t h).1, by have := (hsp t h).2; omega⟩) hbe) (by decide) ⟨Nat.le_refl _, Nat.le_refl _⟩ (Nat.le_of_ble_eq_true rfl) (fun M51 h9 => ?_)
    rw [h9]
    have e51 : gEq Sy M47 (itr (mstep be (whoN (mlk (mGrow ns nv M) (nI (nw + i + 1)) nl B A ST C) nv) sp nt) (min6 (ndc (mlk (mGrow ns nv M) (nI (nw + i + 1)) nl B A ST C) nv)) (itr fmRest nt M47)) := (itr_e (fun _ _ => fmRest_eq) _ _).trans (itr_e (fun _ _ => mstep_eq) _ _)
    obtain ⟨Mi, hMi⟩ : ∃ Mi, Mi = (itr (mstep be (whoN (mlk (mGrow ns nv M) (nI (nw + i + 1)) nl B A ST C) nv) sp nt) (min6 (ndc (mlk (mGrow ns nv M) (nI (nw + i + 1)) nl B A ST C) nv)) (itr fmRest nt M47)) := ⟨_, rfl⟩
    rw [← hMi] at e51 ⊢
    have hR : Mi.2.2 = stdR b := by rw [e51.1]; exact hR
    have ei : ∀ k j, ¬ Sx k j → ¬ Sy k j → Mi.1 k j = M.1 k j := fun k j h1 h2 => (e51.2 k j h2).trans (e47 k j h1 h2)
    refine r_aload_n hG dX9_days_54 rfl ?_
    refine r_aload_n hG dX9_days_55 rfl ?_
    refine r_getIv hG 25 (nI (nw + i)) fk_X9_312 dX9_days_56 rfl (by decide) rfl ((ei 88 25 (by unfold Sx; omega) (by unfold Sy; omega)).trans h25) ?_
    refine r_iconst hG (1) dX9_days_59 (by decide) ?_
    refine r_iadd hG dX9_days_60 ?_
    refine r_top (nI (nw + i + 1)) (nI_1 _) ?_
    refine r_cVV1 hG mk_X9_355 dX9_days_61 rfl (by decide) (ct_X9_gives (M := Mi) (by exact hR) ((ei 88 26 (by unfold Sx; omega) (by unfold Sy; omega)).trans hnv) lv (hO.sm (fun k j h => ei k j (by unfold Sx; omega) (by unfold Sy; omega))) (fun v hv => by rw [(ei 107 v (by unfold Sx; omega) (by unfold Sy; omega))]; exact ht v hv) (nd := nw + i + 1) (by omega)) (by decide) ⟨Nat.le_refl _, Nat.le_refl _⟩ (Nat.le_of_ble_eq_true rfl) (fun M61 h9 => ?_)
    have h61 : mgR Mi M61 nv (nw + i + 1) (fun v => mwantV Mi v (nI (nw + i + 1)) nl B A ST C) := h9
    have hR : M61.2.2 = stdR b := by rw [h61.1.1]; exact hR
    refine r_aload_n hG dX9_days_64 rfl ?_
    refine r_dup hG dX9_days_65 rfl ?_
    refine r_getIv hG 25 (nI (nw + i)) fk_X9_312 dX9_days_66 rfl (by decide) rfl ((h61.1.2 88 25 (by unfold Sz; omega)).trans ((ei 88 25 (by unfold Sx; omega) (by unfold Sy; omega)).trans h25)) ?_
    refine r_iconst hG (1) dX9_days_69 (by decide) ?_
    refine r_iadd hG dX9_days_70 ?_
    refine r_top (nI (nw + i + 1)) (nI_1 _) ?_
    refine r_putI hG 25 fp_X9_312 dX9_days_71 rfl (by decide) rfl rfl rfl ?_
    refine r_iinc hG (1) dX9_days_74 (by decide) rfl ?_
    refine r_loc [some (.ref 88), some (.int (nI n)), some (.int ((nI i) + (1)))] rfl ?_
    refine r_goto hG 31 dX9_days_77 (by decide) ?_
    rw [nI_1]
    refine ih (i + 1) _ (by omega) ⟨M, hd, M47, M61, be, h47, hbe, ?_, rfl⟩ hP
    rw [← hMi]
    exact h61

set_option maxRecDepth 100000 in
set_option maxHeartbeats 400000 in
theorem ct_X9_days {M : gM} {b : Bool} (hR : M.2.2 = stdR b) {nv ns nt nb : Nat} (hnv : M.1 88 26 = nI nv) (lv : nv ≤ 12) (hns : M.1 88 38 = nI ns) (ls : ns ≤ 4) (hnt : M.1 88 43 = nI nt) (lt : nt ≤ 4) (hnb : M.1 88 62 = nI nb) (lb : nb ≤ 10) {hh nl : Nat} {B : Nat → Bool} {A : Nat → Int32} {ST : Nat → Nat} {C : Nat → Nat × Int32} (hO : ordM M hh nl B A ST C) (ht : ∀ v, v < nv → ¬ (M.1 107 v).toInt64 = 0) {sp : Nat → Nat} (hsp : ∀ t, t < nt → M.1 119 t = nI (sp t) ∧ sp t < ns) {nw : Nat} (hnw : M.1 88 25 = nI nw) (lw : nw < 400) (x : Int32) : gC 5 0 0 yX9_days cX9_days 3 (some .int) 140 140 [.ref 88, .int x] M (gI (fun r M9 => (∃ n, x = nI n ∧ n ≤ 30 ∧ nw + n < 400 ∧ mdaysR ns nt nv nl sp B A ST C nw n (gwI M 88 0 0) M9 ∧ r = nI (nw + n)) ∨ (¬ (∃ n, x = nI n ∧ n ≤ 30 ∧ nw + n < 400) ∧ r = -1 ∧ M9 = (gwI M 88 0 0)))) := by
  refine gC_i rfl (Nat.le_of_ble_eq_true rfl) (fun G hG hE => ?_)
  change G (140, 0, 0) 0 [some (.ref 88), some (.int x), none] [] M
  refine r_aload_n hG dX9_days_0 rfl ?_
  refine r_iconst hG (0) dX9_days_1 (by decide) ?_
  refine r_putI hG 0 fp_X9_1 dX9_days_2 rfl (by decide) rfl rfl rfl ?_
  refine r_iload_n hG dX9_days_5 rfl ?_
  refine r_if_lt hG 27 dX9_days_6 (by decide) (fun hc6 => ?_) (fun hc6 => ?_)
  · refine r_iconst hG (-1) dX9_days_27 (by decide) ?_
    refine hE _ _ _ _ _ dX9_days_28 rfl (Nat.le_refl _) (Nat.le_refl _) rfl ?_
    refine Or.inr ⟨?_, rfl, rfl⟩
    rintro ⟨n, q1, q2, q3⟩
    rw [q1] at hc6
    exact absurd hc6 (nI_pos (by omega))
  · refine r_iload_n hG dX9_days_9 rfl ?_
    refine r_bipush hG (30) dX9_days_10 (by decide) ?_
    refine r_icmp_gt hG 27 dX9_days_12 (by decide) (fun hc12 => ?_) (fun hc12 => ?_)
    · refine r_iconst hG (-1) dX9_days_27 (by decide) ?_
      refine hE _ _ _ _ _ dX9_days_28 rfl (Nat.le_refl _) (Nat.le_refl _) rfl ?_
      refine Or.inr ⟨?_, rfl, rfl⟩
      rintro ⟨n, q1, q2, q3⟩
      rw [q1] at hc12
      exact absurd hc12 (Int32.not_lt.mpr (nI_le (b := 30) (by omega) (by omega)))
    · refine r_aload_n hG dX9_days_15 rfl ?_
      refine r_getIv hG 25 (nI nw) fk_X9_312 dX9_days_16 rfl (by decide) rfl ((gwI_n (by omega)).trans hnw) ?_
      refine r_iload_n hG dX9_days_19 rfl ?_
      refine r_iadd hG dX9_days_20 ?_
      refine r_sipush hG (400) dX9_days_21 (by decide) ?_
      refine r_icmp_lt hG 29 dX9_days_24 (by decide) (fun hc24 => ?_) (fun hc24 => ?_)
      · refine r_iconst hG (0) dX9_days_29 (by decide) ?_
        refine r_istore_n hG dX9_days_30 (by decide) ?_
        refine r_loc [some (.ref 88), some (.int x), some (.int (0))] rfl ?_
        obtain ⟨n, hn30, rfl⟩ : ∃ n : Nat, n ≤ 30 ∧ x = nI n := nI_of2 (M := 30) (by decide) hc6 (Int32.not_lt.mp hc12)
        rw [nI_add] at hc24
        have hn := nlt_t (a := nw + n) (b := 400) (by omega) (by omega) hc24
        exact lp_X9_days (M0 := (gwI M 88 0 0)) hG hE (by exact hR) ((gwI_n (by omega)).trans hnv) lv ((gwI_n (by omega)).trans hns) ls ((gwI_n (by omega)).trans hnt) lt ((gwI_n (by omega)).trans hnb) lb hO.t (fun v hv => by rw [gwI_n (by omega)]; exact ht v hv) (fun t h => ⟨((gwI_n (by omega)).trans (hsp t h).1), (hsp t h).2⟩) ((gwI_n (by omega)).trans hnw) lw (n := n) hn n 0 _ (by omega) rfl (fun M9 h9 => Or.inl ⟨n, rfl, hn30, hn, h9, rfl⟩)
      · refine r_iconst hG (-1) dX9_days_27 (by decide) ?_
        refine hE _ _ _ _ _ dX9_days_28 rfl (Nat.le_refl _) (Nat.le_refl _) rfl ?_
        refine Or.inr ⟨?_, rfl, rfl⟩
        rintro ⟨n, q1, q2, q3⟩
        rw [q1, nI_add] at hc24
        exact hc24 (nI_lt (a := nw + n) (b := 400) (by omega) (by omega))


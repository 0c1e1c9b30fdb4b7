def fRun (i : Nat) (M : gM) : gM := gwI (gwI M (2 * i + 66) 2 (mmin (M.1 (2 * i + 66) 2 + M.1 (2 * i + 66) 0) (M.1 (2 * i + 66) 1))) (2 * i + 66) 0 (M.1 (2 * i + 66) 0 - (M.1 (2 * i + 66) 0 * M.1 (2 * i + 66) 3 + 99) / 100)
def fWell (i : Nat) (M : gM) : gM := gwI M (2 * i + 42) 3 (mmin (M.1 (2 * i + 42) 3 + M.1 (2 * i + 42) 4) (M.1 (2 * i + 42) 2))
def fRest (i : Nat) (M : gM) : gM := gwI M (i + 74) 3 0
/-- springs, wells, rest: the morning of a day -/
def fMorn (ns nv nt : Nat) (M : gM) : gM := itr fRest nt (itr fWell nv (itr fRun ns M))
/-- a drive of the plan in Mb, at place i -/
def dstep (Mb : gM) (sp : Nat → Nat) (nt i : Nat) (M : gM) : gM := if 0 ≤ Mb.1 39 i ∧ (Mb.1 39 i).toNatClampNeg < nt then fDrive M (Mb.1 39 i).toNatClampNeg (sp (Mb.1 39 i).toNatClampNeg) (Mb.1 28 i).toNatClampNeg else M
/-- what a day may write -/
def Sd (k j : Nat) : Prop := Sp k j ∨ (k = 0 ∧ (j = 12 ∨ j = 13 ∨ j = 14)) ∨ (42 ≤ k ∧ k < 66 ∧ (k % 2 = 1 ∨ j = 3 ∨ j = 5 ∨ j = 6 ∨ j = 7 ∨ j = 8 ∨ j = 9)) ∨ (66 ≤ k ∧ k < 74 ∧ k % 2 = 0 ∧ (j = 0 ∨ j = 2)) ∨ (74 ≤ k ∧ k < 78 ∧ (j = 3 ∨ j = 4 ∨ j = 5))
theorem itr_eq {S : Nat → Nat → Prop} {f : Nat → gM → gM} {N : Nat} (hf : ∀ i M, i < N → gEq S M (f i M)) : ∀ n M, n ≤ N → gEq S M (itr f n M)
  | 0, _, _ => gEq.rf
  | n + 1, M, h => (itr_eq hf n M (by omega)).trans (hf n _ (by omega))
theorem fRun_eq {M : gM} {i : Nat} (hi : i < 4) : gEq Sd M (fRun i M) := (gEq.rf.put (by unfold Sd; omega)).put (by unfold Sd; omega)
theorem fWell_eq {M : gM} {i : Nat} (hi : i < 12) : gEq Sd M (fWell i M) := gEq.rf.put (by unfold Sd; omega)
theorem fRest_eq {M : gM} {i : Nat} (hi : i < 4) : gEq Sd M (fRest i M) := gEq.rf.put (by unfold Sd; omega)
theorem fDrive_eq {M : gM} {t s v : Nat} (ht : t < 4) (hs : s < 4) (hv : v < 12) : gEq Sd M (fDrive M t s v) :=
  (((((gEq.rf.put (by unfold Sd; omega)).put (by unfold Sd; omega)).put (by unfold Sd; omega)).put (by unfold Sd; omega)).put (by unfold Sd; omega)).put (by unfold Sd; omega)
/-- one day: M9 from M -/
def dayR (M M9 : gM) (ns nt nv nl nw : Nat) (sp : Nat → Nat) (B : Nat → Bool) (A : Nat → Int32) (ST : Nat → Nat) (C : Nat → Nat × Int32) : Prop :=
  ∃ Mb Md, mkP (fMorn ns nv nt M) Mb ns nt nv sp (lkF (fMorn ns nv nt M) nl B A ST C) ∧ gEq Sd M Mb ∧ gEq Sd M (itr (dstep Mb sp nt) (min6 (ndc (lkF (fMorn ns nv nt M) nl B A ST C) nv)) Mb) ∧ gvR (itr (dstep Mb sp nt) (min6 (ndc (lkF (fMorn ns nv nt M) nl B A ST C) nv)) Mb) Md nv (nw % 7) (fun v => wantV (itr (dstep Mb sp nt) (min6 (ndc (lkF (fMorn ns nv nt M) nl B A ST C) nv)) Mb) (2 * v + 42) nl B A ST C) ∧ M9 = gwI Md 0 12 (nI (nw + 1))
theorem dayR.eq {M M9 : gM} {ns nt nv nl nw : Nat} {sp : Nat → Nat} {B : Nat → Bool} {A : Nat → Int32} {ST : Nat → Nat} {C : Nat → Nat × Int32} (h : dayR M M9 ns nt nv nl nw sp B A ST C) : gEq Sd M M9 ∧ M9.1 0 12 = nI (nw + 1) := by
  obtain ⟨Mb, Md, -, -, h2, h3, rfl⟩ := h
  exact ⟨(h2.trans (h3.1.mono (fun k j h => by unfold Sg Sc at h; unfold Sd Sp Sc; omega))).put (by unfold Sd; omega), gwI_s⟩
/-- the class's standing facts, as they hold from day to day -/
theorem ordC.sd {M M' : gM} {o nl : Nat} {B : Nat → Bool} {A : Nat → Int32} {ST : Nat → Nat} {C : Nat → Nat × Int32} (ho : o = 11 ∨ o = 17) (h : ordC M o nl B A ST C) (hq : gEq Sd M M') : ordC M' o nl B A ST C := by
  obtain ⟨a1, a2, a3, a4, a5, a6⟩ := h
  refine ⟨a1, (hq.2 o 5 (by unfold Sd Sp Sc; omega)).trans a2, (hq.2 o 6 (by unfold Sd Sp Sc; omega)).trans a3, a4, fun i hi => ?_, fun j hj => ?_⟩
  · obtain ⟨g1, g2, g3, g4, g5⟩ := a5 i hi
    exact ⟨g1, (hq.2 (o + 1) i (by unfold Sd Sp Sc; omega)).trans g2, (hq.2 (o + 2) i (by unfold Sd Sp Sc; omega)).trans g3, (hq.2 (o + 3) i (by unfold Sd Sp Sc; omega)).trans g4, g5⟩
  · rw [hq.2 (o + 4) j (by unfold Sd Sp Sc; omega)]; exact a6 j hj
set_option maxRecDepth 100000 in
set_option maxHeartbeats 400000 in
theorem lp_X8_passDay4  {G : gJ} {P : gM → Prop} (hG : gS 18 0 0 yX8_passDay.cls cX8_passDay 2 G) (hE : gEv 140 0 0 cX8_passDay P G) {M0 : gM} {b : Bool} (hR0 : M0.2.2 = stdR b) {nv ns nt nb : Nat} (hnv0 : M0.1 0 7 = nI nv) (lv : nv ≤ 12) (hns0 : M0.1 0 8 = nI ns) (ls : ns ≤ 4) (hnt0 : M0.1 0 9 = nI nt) (lt : nt ≤ 4) (hnb0 : M0.1 0 10 = nI nb) (lb : nb ≤ 10) {o : Nat} (hob : o = if b then 17 else 11) {nl : Nat} {B : Nat → Bool} {A : Nat → Int32} {ST : Nat → Nat} {C : Nat → Nat × Int32} (hO0 : ordC M0 o nl B A ST C) {sp : Nat → Nat} (hts0 : ∀ t, t < nt → M0.1 (t + 74) 0 = nI (sp t) ∧ sp t < ns) {nw : Nat} (hnw0 : M0.1 0 12 = nI nw) (lw : nw < 400) {Mb : gM} (hk : mkP (fMorn ns nv nt M0) Mb ns nt nv sp (lkF (fMorn ns nv nt M0) nl B A ST C)) (hb0 : gEq Sd M0 Mb) (hb12 : Mb.1 0 12 = nI nw) :
    ∀ (r i : Nat) (M : gM), i + r = (min6 (ndc (lkF (fMorn ns nv nt M0) nl B A ST C) nv)) → M = (itr (dstep Mb sp nt) i Mb) → gEq (fun k j => (42 ≤ k ∧ k < 66 ∧ k % 2 = 0 ∧ (j = 3 ∨ j = 9)) ∨ (66 ≤ k ∧ k < 74 ∧ k % 2 = 0 ∧ j = 2) ∨ (74 ≤ k ∧ k < 78 ∧ (j = 3 ∨ j = 4 ∨ j = 5))) Mb M → (∀ M9, dayR M0 M9 ns nt nv nl nw sp B A ST C → P M9) → G (140, 0, 0) 91 [some (.ref 0), some (.int (nI i))] [] M := by
  intro r
  induction r with
  | zero =>
    intro i M hi hM hbm hP
    have h6 := min6_le (ndc (lkF (fMorn ns nv nt M0) nl B A ST C) nv)
    obtain ⟨hn, -, -⟩ := hk.n
    have hn : M.1 23 14 = nI (min6 (ndc (lkF (fMorn ns nv nt M0) nl B A ST C) nv)) := (hbm.2 23 14 (by omega)).trans hn
    have hq : gEq Sd M0 M := hb0.trans (hbm.mono (fun k j h => by unfold Sd; omega))
    have hR : M.2.2 = stdR b := by rw [hq.1]; exact hR0
    have hnv : M.1 0 7 = nI nv := (hq.2 0 7 (by unfold Sd Sp Sc; omega)).trans hnv0
    have hns : M.1 0 8 = nI ns := (hq.2 0 8 (by unfold Sd Sp Sc; omega)).trans hns0
    have hnt : M.1 0 9 = nI nt := (hq.2 0 9 (by unfold Sd Sp Sc; omega)).trans hnt0
    have hnb : M.1 0 10 = nI nb := (hq.2 0 10 (by unfold Sd Sp Sc; omega)).trans hnb0
    have hts : ∀ t, t < nt → M.1 (t + 74) 0 = nI (sp t) ∧ sp t < ns := fun t h => ⟨(hq.2 (t + 74) 0 (by unfold Sd Sp Sc; omega)).trans (hts0 t h).1, (hts0 t h).2⟩
    have ho : o = 11 ∨ o = 17 := by cases b <;> simp at hob <;> omega
    have hO : ordC M o nl B A ST C := hO0.sd ho hq
    refine r_iload_n hG dX8_passDay_91 rfl ?_
    refine r_aload_n hG dX8_passDay_92 rfl ?_
    refine r_getR hG 6 23 fk_X8_47 dX8_passDay_93 rfl (by decide) rfl (sr hR rfl) ?_
    refine r_getIv hG 14 (nI (min6 (ndc (lkF (fMorn ns nv nt M0) nl B A ST C) nv))) fk_X8_145 dX8_passDay_96 rfl (by decide) rfl hn ?_
    refine r_icmp_ge hG 130 dX8_passDay_99 (by decide) (fun hc99 => ?_) (fun hc99 => absurd (nle_f (a := (min6 (ndc (lkF (fMorn ns nv nt M0) nl B A ST C) nv))) (b := i) (by omega) (by omega) hc99) (by omega))
    refine r_aload_n hG dX8_passDay_130 rfl ?_
    refine r_cVV0 hG mk_X8_289 dX8_passDay_131 rfl (by decide) (ct_X8_giveToAll hR hnv lv hns ls hnt lt hnb lb hob hO (nw := nw) ((hbm.2 0 12 (by omega)).trans hb12) lw) (by decide) ⟨Nat.le_refl _, Nat.le_refl _⟩ (Nat.le_of_ble_eq_true rfl) (fun M131 h9 => ?_)
    have hR : M131.2.2 = stdR b := by rw [h9.1.1]; exact hR
    refine r_aload_n hG dX8_passDay_134 rfl ?_
    refine r_dup hG dX8_passDay_135 rfl ?_
    refine r_getIv hG 12 (nI nw) fk_X8_154 dX8_passDay_136 rfl (by decide) rfl ((h9.1.2 0 12 (by unfold Sg Sc; omega)).trans ((hbm.2 0 12 (by omega)).trans hb12)) ?_
    refine r_iconst hG (1) dX8_passDay_139 (by decide) ?_
    refine r_iadd hG dX8_passDay_140 ?_
    refine r_top (nI (nw + 1)) (nI_1 nw) ?_
    refine r_putI hG 12 fp_X8_154 dX8_passDay_141 rfl (by decide) rfl rfl rfl ?_
    refine hE _ _ _ _ dX8_passDay_144 rfl (Nat.le_refl _) (Nat.le_refl _) ?_
    have ei : i = (min6 (ndc (lkF (fMorn ns nv nt M0) nl B A ST C) nv)) := by omega
    refine hP _ ⟨Mb, M131, hk, hb0, ?_, ?_, rfl⟩
    · rw [← ei, ← hM]; exact hq
    · rw [← ei, ← hM]; exact h9
  | succ r ih =>
    intro i M hi hM hbm hP
    have h6 := min6_le (ndc (lkF (fMorn ns nv nt M0) nl B A ST C) nv)
    obtain ⟨hn, -, -⟩ := hk.n
    have hn : M.1 23 14 = nI (min6 (ndc (lkF (fMorn ns nv nt M0) nl B A ST C) nv)) := (hbm.2 23 14 (by omega)).trans hn
    have hq : gEq Sd M0 M := hb0.trans (hbm.mono (fun k j h => by unfold Sd; omega))
    have hR : M.2.2 = stdR b := by rw [hq.1]; exact hR0
    have hnv : M.1 0 7 = nI nv := (hq.2 0 7 (by unfold Sd Sp Sc; omega)).trans hnv0
    have hns : M.1 0 8 = nI ns := (hq.2 0 8 (by unfold Sd Sp Sc; omega)).trans hns0
    have hnt : M.1 0 9 = nI nt := (hq.2 0 9 (by unfold Sd Sp Sc; omega)).trans hnt0
    have hnb : M.1 0 10 = nI nb := (hq.2 0 10 (by unfold Sd Sp Sc; omega)).trans hnb0
    have hts : ∀ t, t < nt → M.1 (t + 74) 0 = nI (sp t) ∧ sp t < ns := fun t h => ⟨(hq.2 (t + 74) 0 (by unfold Sd Sp Sc; omega)).trans (hts0 t h).1, (hts0 t h).2⟩
    have ho : o = 11 ∨ o = 17 := by cases b <;> simp at hob <;> omega
    have hO : ordC M o nl B A ST C := hO0.sd ho hq
    obtain ⟨v, hv, hl, hc, ev⟩ := hk.who (p := i) (by omega)
    refine r_iload_n hG dX8_passDay_91 rfl ?_
    refine r_aload_n hG dX8_passDay_92 rfl ?_
    refine r_getR hG 6 23 fk_X8_47 dX8_passDay_93 rfl (by decide) rfl (sr hR rfl) ?_
    refine r_getIv hG 14 (nI (min6 (ndc (lkF (fMorn ns nv nt M0) nl B A ST C) nv))) fk_X8_145 dX8_passDay_96 rfl (by decide) rfl hn ?_
    refine r_icmp_ge hG 130 dX8_passDay_99 (by decide) (fun hc99 => absurd (nle_t (a := (min6 (ndc (lkF (fMorn ns nv nt M0) nl B A ST C) nv))) (b := i) (by omega) (by omega) hc99) (by omega)) (fun hc99 => ?_)
    refine r_aload_n hG dX8_passDay_102 rfl ?_
    refine r_aload_n hG dX8_passDay_103 rfl ?_
    refine r_getR hG 6 23 fk_X8_47 dX8_passDay_104 rfl (by decide) rfl (sr hR rfl) ?_
    refine r_getR hG 9 39 fk_X8_151 dX8_passDay_107 rfl (by decide) rfl (sr hR rfl) ?_
    refine r_iload_n hG dX8_passDay_110 rfl ?_
    refine r_ialdv hG i (Mb.1 39 i) dX8_passDay_111 rfl (by decide) rfl (by omega) (by decide) (hbm.2 39 i (by omega)) ?_
    refine r_aload_n hG dX8_passDay_112 rfl ?_
    refine r_getR hG 6 23 fk_X8_47 dX8_passDay_113 rfl (by decide) rfl (sr hR rfl) ?_
    refine r_getR hG 4 28 fk_X8_148 dX8_passDay_116 rfl (by decide) rfl (sr hR rfl) ?_
    refine r_iload_n hG dX8_passDay_119 rfl ?_
    refine r_ialdv hG i (nI v) dX8_passDay_120 rfl (by decide) rfl (by omega) (by decide) ((hbm.2 28 i (by omega)).trans ev) ?_
    refine r_cVV2 hG mk_X8_286 dX8_passDay_121 rfl (by decide) (ct_X8_drive hR hnv lv hns ls hnt lt hnb lb hts (v := v) hv _) (by decide) ⟨Nat.le_refl _, Nat.le_refl _⟩ (Nat.le_of_ble_eq_true rfl) (fun M121 h9 => ?_)
    skip
    refine r_iinc hG (1) dX8_passDay_124 (by decide) rfl ?_
    refine r_loc [some (.ref 0), some (.int ((nI i) + (1)))] rfl ?_
    refine r_goto hG 91 dX8_passDay_127 (by decide) ?_
    rw [nI_1]
    have hs4 : ∀ t, t < nt → sp t < 4 := fun t ht => by have := (hts0 t ht).2; omega
    have e28 : Mb.1 28 i = nI v := ev
    rcases h9 with ⟨t, ht, et, rfl⟩ | ⟨hx, rfl⟩
    · refine ih (i + 1) _ (by omega) ?_ ?_ hP
      · show _ = dstep Mb sp nt i (itr (dstep Mb sp nt) i Mb)
        rw [← hM]
        unfold dstep
        have e1 : 0 ≤ Mb.1 39 i ∧ (Mb.1 39 i).toNatClampNeg < nt := by rw [et]; exact ⟨nI_pos' (by omega), by rw [nI_clamp (by omega)]; exact ht⟩
        rw [if_pos e1, et, e28, nI_clamp (by omega), nI_clamp (by omega)]
      · have := hs4 t ht
        exact (((((hbm.put (by omega)).put (by omega)).put (by omega)).put (by omega)).put (by omega)).put (by omega)
    · refine ih (i + 1) _ (by omega) ?_ hbm hP
      show _ = dstep Mb sp nt i (itr (dstep Mb sp nt) i Mb)
      rw [← hM]
      unfold dstep
      rw [if_neg (fun q => hx ⟨_, q.2, nI_self (Int32.not_lt.mpr q.1)⟩)]

theorem itr_at {f : Nat → gM → gM} {a c : Nat} (hf : ∀ i M, (f i M).1 a c = M.1 a c) : ∀ n M, (itr f n M).1 a c = M.1 a c
  | 0, _ => rfl
  | n + 1, M => (hf n _).trans (itr_at hf n M)
theorem morn12 {M : gM} {ns nv nt : Nat} : (fMorn ns nv nt M).1 0 12 = M.1 0 12 := by
  unfold fMorn
  rw [itr_at (fun i M => by unfold fRest; rw [gwI_n (by omega)]), itr_at (fun i M => by unfold fWell; rw [gwI_n (by omega)]), itr_at (fun i M => by unfold fRun; rw [gwI_n (by omega), gwI_n (by omega)])]
set_option maxRecDepth 100000 in
set_option maxHeartbeats 400000 in
theorem lp_X8_passDay3  {G : gJ} {P : gM → Prop} (hG : gS 18 0 0 yX8_passDay.cls cX8_passDay 2 G) (hE : gEv 140 0 0 cX8_passDay P G) {M0 : gM} {b : Bool} (hR0 : M0.2.2 = stdR b) {nv ns nt nb : Nat} (hnv0 : M0.1 0 7 = nI nv) (lv : nv ≤ 12) (hns0 : M0.1 0 8 = nI ns) (ls : ns ≤ 4) (hnt0 : M0.1 0 9 = nI nt) (lt : nt ≤ 4) (hnb0 : M0.1 0 10 = nI nb) (lb : nb ≤ 10) {o : Nat} (hob : o = if b then 17 else 11) {nl : Nat} {B : Nat → Bool} {A : Nat → Int32} {ST : Nat → Nat} {C : Nat → Nat × Int32} (hO0 : ordC M0 o nl B A ST C) {sp : Nat → Nat} (hts0 : ∀ t, t < nt → M0.1 (t + 74) 0 = nI (sp t) ∧ sp t < ns) {nw : Nat} (hnw0 : M0.1 0 12 = nI nw) (lw : nw < 400) (hpre : gEq Sd M0 (itr fWell nv (itr fRun ns M0))) :
    ∀ (r i : Nat) (M : gM), i + r = nt → M = (itr fRest i (itr fWell nv (itr fRun ns M0))) → (∀ M9, dayR M0 M9 ns nt nv nl nw sp B A ST C → P M9) → G (140, 0, 0) 61 [some (.ref 0), some (.int (nI i))] [] M := by
  intro r
  induction r with
  | zero =>
    intro i M hi hM hP
    have hq : gEq Sd M0 M := by rw [hM]; exact hpre.trans (itr_eq (N := 4) (fun i M hi => fRest_eq (by omega)) i _ (by omega))
    have hR : M.2.2 = stdR b := by rw [hq.1]; exact hR0
    have hnv : M.1 0 7 = nI nv := (hq.2 0 7 (by unfold Sd Sp Sc; omega)).trans hnv0
    have hns : M.1 0 8 = nI ns := (hq.2 0 8 (by unfold Sd Sp Sc; omega)).trans hns0
    have hnt : M.1 0 9 = nI nt := (hq.2 0 9 (by unfold Sd Sp Sc; omega)).trans hnt0
    have hnb : M.1 0 10 = nI nb := (hq.2 0 10 (by unfold Sd Sp Sc; omega)).trans hnb0
    have hts : ∀ t, t < nt → M.1 (t + 74) 0 = nI (sp t) ∧ sp t < ns := fun t h => ⟨(hq.2 (t + 74) 0 (by unfold Sd Sp Sc; omega)).trans (hts0 t h).1, (hts0 t h).2⟩
    have ho : o = 11 ∨ o = 17 := by cases b <;> simp at hob <;> omega
    have hO : ordC M o nl B A ST C := hO0.sd ho hq
    refine r_iload_n hG dX8_passDay_61 rfl ?_
    refine r_aload_n hG dX8_passDay_62 rfl ?_
    refine r_getIv hG 9 (nI nt) fk_X8_94 dX8_passDay_63 rfl (by decide) rfl hnt ?_
    refine r_icmp_ge hG 85 dX8_passDay_66 (by decide) (fun hc66 => ?_) (fun hc66 => absurd (nle_f (a := nt) (b := i) (by omega) (by omega) hc66) (by omega))
    refine r_aload_n hG dX8_passDay_85 rfl ?_
    refine r_cVV0 hG mk_X8_133 dX8_passDay_86 rfl (by decide) (ct_X8_makePlan hR hnv lv hns ls hnt lt hnb lb hob hO hts) (by decide) ⟨Nat.le_refl _, Nat.le_refl _⟩ (Nat.le_of_ble_eq_true rfl) (fun M86 h9 => ?_)
    have hk86 : mkP M M86 ns nt nv sp (lkF M nl B A ST C) := h9
    have hR : M86.2.2 = stdR b := by rw [hk86.eq.1]; exact hR
    refine r_iconst hG (0) dX8_passDay_89 (by decide) ?_
    refine r_istore_n hG dX8_passDay_90 (by decide) ?_
    refine r_loc [some (.ref 0), some (.int (0))] rfl ?_
    have m12 : (fMorn ns nv nt M0).1 0 12 = M0.1 0 12 := morn12
    have ei : i = nt := by omega
    have e0 : M = fMorn ns nv nt M0 := by rw [hM, ei]; rfl
    subst e0
    have hb0 : gEq Sd M0 M86 := hq.trans (hk86.eq.mono (fun k j h => by unfold Sd; exact Or.inl h))
    have hb12 : M86.1 0 12 = nI nw := (hk86.eq.2 0 12 (by unfold Sp Sc; omega)).trans (m12.trans hnw0)
    exact lp_X8_passDay4 hG hE hR0 hnv0 lv hns0 ls hnt0 lt hnb0 lb hob hO0 hts0 hnw0 lw hk86 hb0 hb12 _ 0 M86 (Nat.zero_add _) rfl gEq.rf hP
  | succ r ih =>
    intro i M hi hM hP
    have hq : gEq Sd M0 M := by rw [hM]; exact hpre.trans (itr_eq (N := 4) (fun i M hi => fRest_eq (by omega)) i _ (by omega))
    have hR : M.2.2 = stdR b := by rw [hq.1]; exact hR0
    have hnv : M.1 0 7 = nI nv := (hq.2 0 7 (by unfold Sd Sp Sc; omega)).trans hnv0
    have hns : M.1 0 8 = nI ns := (hq.2 0 8 (by unfold Sd Sp Sc; omega)).trans hns0
    have hnt : M.1 0 9 = nI nt := (hq.2 0 9 (by unfold Sd Sp Sc; omega)).trans hnt0
    have hnb : M.1 0 10 = nI nb := (hq.2 0 10 (by unfold Sd Sp Sc; omega)).trans hnb0
    have hts : ∀ t, t < nt → M.1 (t + 74) 0 = nI (sp t) ∧ sp t < ns := fun t h => ⟨(hq.2 (t + 74) 0 (by unfold Sd Sp Sc; omega)).trans (hts0 t h).1, (hts0 t h).2⟩
    have ho : o = 11 ∨ o = 17 := by cases b <;> simp at hob <;> omega
    have hO : ordC M o nl B A ST C := hO0.sd ho hq
    refine r_iload_n hG dX8_passDay_61 rfl ?_
    refine r_aload_n hG dX8_passDay_62 rfl ?_
    refine r_getIv hG 9 (nI nt) fk_X8_94 dX8_passDay_63 rfl (by decide) rfl hnt ?_
    refine r_icmp_ge hG 85 dX8_passDay_66 (by decide) (fun hc66 => absurd (nle_t (a := nt) (b := i) (by omega) (by omega) hc66) (by omega)) (fun hc66 => ?_)
    refine r_aload_n hG dX8_passDay_69 rfl ?_
    refine r_getR hG 2 3 fk_X8_23 dX8_passDay_70 rfl (by decide) rfl (sr hR rfl) ?_
    refine r_iload_n hG dX8_passDay_73 rfl ?_
    refine r_aald6 hG i (i + 74) dX8_passDay_74 rfl (by decide) rfl (by omega) (by decide) (sr hR rfl) ?_
    refine r_iconst hG (0) dX8_passDay_75 (by decide) ?_
    refine r_putI hG 3 fp_X8_219 dX8_passDay_76 (gkT (by omega)) (show (i + 74) < 140 by omega) rfl rfl rfl ?_
    refine r_iinc hG (1) dX8_passDay_79 (by decide) rfl ?_
    refine r_loc [some (.ref 0), some (.int ((nI i) + (1)))] rfl ?_
    refine r_goto hG 61 dX8_passDay_82 (by decide) ?_
    rw [nI_1]
    exact ih (i + 1) _ (by omega) (by rw [hM]; rfl) hP

set_option maxRecDepth 100000 in
set_option maxHeartbeats 400000 in
theorem lp_X8_passDay2  {G : gJ} {P : gM → Prop} (hG : gS 18 0 0 yX8_passDay.cls cX8_passDay 2 G) (hE : gEv 140 0 0 cX8_passDay P G) {M0 : gM} {b : Bool} (hR0 : M0.2.2 = stdR b) {nv ns nt nb : Nat} (hnv0 : M0.1 0 7 = nI nv) (lv : nv ≤ 12) (hns0 : M0.1 0 8 = nI ns) (ls : ns ≤ 4) (hnt0 : M0.1 0 9 = nI nt) (lt : nt ≤ 4) (hnb0 : M0.1 0 10 = nI nb) (lb : nb ≤ 10) {o : Nat} (hob : o = if b then 17 else 11) {nl : Nat} {B : Nat → Bool} {A : Nat → Int32} {ST : Nat → Nat} {C : Nat → Nat × Int32} (hO0 : ordC M0 o nl B A ST C) {sp : Nat → Nat} (hts0 : ∀ t, t < nt → M0.1 (t + 74) 0 = nI (sp t) ∧ sp t < ns) {nw : Nat} (hnw0 : M0.1 0 12 = nI nw) (lw : nw < 400) (hpre : gEq Sd M0 (itr fRun ns M0)) :
    ∀ (r i : Nat) (M : gM), i + r = nv → M = (itr fWell i (itr fRun ns M0)) → (∀ M9, dayR M0 M9 ns nt nv nl nw sp B A ST C → P M9) → G (140, 0, 0) 27 [some (.ref 0), some (.int (nI i))] [] M := by
  intro r
  induction r with
  | zero =>
    intro i M hi hM hP
    have hq : gEq Sd M0 M := by rw [hM]; exact hpre.trans (itr_eq (N := 12) (fun i M hi => fWell_eq (by omega)) i _ (by omega))
    have hR : M.2.2 = stdR b := by rw [hq.1]; exact hR0
    have hnv : M.1 0 7 = nI nv := (hq.2 0 7 (by unfold Sd Sp Sc; omega)).trans hnv0
    have hns : M.1 0 8 = nI ns := (hq.2 0 8 (by unfold Sd Sp Sc; omega)).trans hns0
    have hnt : M.1 0 9 = nI nt := (hq.2 0 9 (by unfold Sd Sp Sc; omega)).trans hnt0
    have hnb : M.1 0 10 = nI nb := (hq.2 0 10 (by unfold Sd Sp Sc; omega)).trans hnb0
    have hts : ∀ t, t < nt → M.1 (t + 74) 0 = nI (sp t) ∧ sp t < ns := fun t h => ⟨(hq.2 (t + 74) 0 (by unfold Sd Sp Sc; omega)).trans (hts0 t h).1, (hts0 t h).2⟩
    have ho : o = 11 ∨ o = 17 := by cases b <;> simp at hob <;> omega
    have hO : ordC M o nl B A ST C := hO0.sd ho hq
    refine r_iload_n hG dX8_passDay_27 rfl ?_
    refine r_aload_n hG dX8_passDay_28 rfl ?_
    refine r_getIv hG 7 (nI nv) fk_X8_60 dX8_passDay_29 rfl (by decide) rfl hnv ?_
    refine r_icmp_ge hG 59 dX8_passDay_32 (by decide) (fun hc32 => ?_) (fun hc32 => absurd (nle_f (a := nv) (b := i) (by omega) (by omega) hc32) (by omega))
    refine r_iconst hG (0) dX8_passDay_59 (by decide) ?_
    refine r_istore_n hG dX8_passDay_60 (by decide) ?_
    refine r_loc [some (.ref 0), some (.int (0))] rfl ?_
    have ei : i = nv := by omega
    have e0 : M = itr fWell nv (itr fRun ns M0) := by rw [hM, ei]
    subst e0
    exact lp_X8_passDay3 hG hE hR0 hnv0 lv hns0 ls hnt0 lt hnb0 lb hob hO0 hts0 hnw0 lw hq nt 0 _ (by omega) rfl hP
  | succ r ih =>
    intro i M hi hM hP
    have hq : gEq Sd M0 M := by rw [hM]; exact hpre.trans (itr_eq (N := 12) (fun i M hi => fWell_eq (by omega)) i _ (by omega))
    have hR : M.2.2 = stdR b := by rw [hq.1]; exact hR0
    have hnv : M.1 0 7 = nI nv := (hq.2 0 7 (by unfold Sd Sp Sc; omega)).trans hnv0
    have hns : M.1 0 8 = nI ns := (hq.2 0 8 (by unfold Sd Sp Sc; omega)).trans hns0
    have hnt : M.1 0 9 = nI nt := (hq.2 0 9 (by unfold Sd Sp Sc; omega)).trans hnt0
    have hnb : M.1 0 10 = nI nb := (hq.2 0 10 (by unfold Sd Sp Sc; omega)).trans hnb0
    have hts : ∀ t, t < nt → M.1 (t + 74) 0 = nI (sp t) ∧ sp t < ns := fun t h => ⟨(hq.2 (t + 74) 0 (by unfold Sd Sp Sc; omega)).trans (hts0 t h).1, (hts0 t h).2⟩
    have ho : o = 11 ∨ o = 17 := by cases b <;> simp at hob <;> omega
    have hO : ordC M o nl B A ST C := hO0.sd ho hq
    refine r_iload_n hG dX8_passDay_27 rfl ?_
    refine r_aload_n hG dX8_passDay_28 rfl ?_
    refine r_getIv hG 7 (nI nv) fk_X8_60 dX8_passDay_29 rfl (by decide) rfl hnv ?_
    refine r_icmp_ge hG 59 dX8_passDay_32 (by decide) (fun hc32 => absurd (nle_t (a := nv) (b := i) (by omega) (by omega) hc32) (by omega)) (fun hc32 => ?_)
    refine r_aload_n hG dX8_passDay_35 rfl ?_
    refine r_getR hG 0 1 fk_X8_11 dX8_passDay_36 rfl (by decide) rfl (sr hR rfl) ?_
    refine r_iload_n hG dX8_passDay_39 rfl ?_
    refine r_aald4 hG i (2 * i + 42) dX8_passDay_40 rfl (by decide) rfl (by omega) (by decide) (sr hR rfl) ?_
    refine r_aload_n hG dX8_passDay_41 rfl ?_
    refine r_getR hG 0 1 fk_X8_11 dX8_passDay_42 rfl (by decide) rfl (sr hR rfl) ?_
    refine r_iload_n hG dX8_passDay_45 rfl ?_
    refine r_aald4 hG i (2 * i + 42) dX8_passDay_46 rfl (by decide) rfl (by omega) (by decide) (sr hR rfl) ?_
    refine r_getI hG 4 fk_X8_160 dX8_passDay_47 (gkV (by omega)) (show (2 * i + 42) < 140 by omega) rfl ?_
    refine r_cVV1 hG mk_X8_282 dX8_passDay_50 (gkV (by omega)) (show (2 * i + 42) < 140 by omega) (ct_X7_fill hR (i := i) (by omega) _) (by decide) ⟨Nat.le_refl _, Nat.le_refl _⟩ (Nat.le_of_ble_eq_true rfl) (fun M9 h9 => ?_)
    rw [h9]
    refine r_mem (fWell i M) rfl ?_
    refine r_iinc hG (1) dX8_passDay_53 (by decide) rfl ?_
    refine r_loc [some (.ref 0), some (.int ((nI i) + (1)))] rfl ?_
    refine r_goto hG 27 dX8_passDay_56 (by decide) ?_
    rw [nI_1]
    exact ih (i + 1) _ (by omega) (by rw [hM]; rfl) hP

set_option maxRecDepth 100000 in
set_option maxHeartbeats 400000 in
theorem lp_X8_passDay1  {G : gJ} {P : gM → Prop} (hG : gS 18 0 0 yX8_passDay.cls cX8_passDay 2 G) (hE : gEv 140 0 0 cX8_passDay P G) {M0 : gM} {b : Bool} (hR0 : M0.2.2 = stdR b) {nv ns nt nb : Nat} (hnv0 : M0.1 0 7 = nI nv) (lv : nv ≤ 12) (hns0 : M0.1 0 8 = nI ns) (ls : ns ≤ 4) (hnt0 : M0.1 0 9 = nI nt) (lt : nt ≤ 4) (hnb0 : M0.1 0 10 = nI nb) (lb : nb ≤ 10) {o : Nat} (hob : o = if b then 17 else 11) {nl : Nat} {B : Nat → Bool} {A : Nat → Int32} {ST : Nat → Nat} {C : Nat → Nat × Int32} (hO0 : ordC M0 o nl B A ST C) {sp : Nat → Nat} (hts0 : ∀ t, t < nt → M0.1 (t + 74) 0 = nI (sp t) ∧ sp t < ns) {nw : Nat} (hnw0 : M0.1 0 12 = nI nw) (lw : nw < 400) (hpre : gEq Sd M0 M0) :
    ∀ (r i : Nat) (M : gM), i + r = ns → M = (itr fRun i M0) → (∀ M9, dayR M0 M9 ns nt nv nl nw sp B A ST C → P M9) → G (140, 0, 0) 2 [some (.ref 0), some (.int (nI i))] [] M := by
  intro r
  induction r with
  | zero =>
    intro i M hi hM hP
    have hq : gEq Sd M0 M := by rw [hM]; exact hpre.trans (itr_eq (N := 4) (fun i M hi => fRun_eq (by omega)) i _ (by omega))
    have hR : M.2.2 = stdR b := by rw [hq.1]; exact hR0
    have hnv : M.1 0 7 = nI nv := (hq.2 0 7 (by unfold Sd Sp Sc; omega)).trans hnv0
    have hns : M.1 0 8 = nI ns := (hq.2 0 8 (by unfold Sd Sp Sc; omega)).trans hns0
    have hnt : M.1 0 9 = nI nt := (hq.2 0 9 (by unfold Sd Sp Sc; omega)).trans hnt0
    have hnb : M.1 0 10 = nI nb := (hq.2 0 10 (by unfold Sd Sp Sc; omega)).trans hnb0
    have hts : ∀ t, t < nt → M.1 (t + 74) 0 = nI (sp t) ∧ sp t < ns := fun t h => ⟨(hq.2 (t + 74) 0 (by unfold Sd Sp Sc; omega)).trans (hts0 t h).1, (hts0 t h).2⟩
    have ho : o = 11 ∨ o = 17 := by cases b <;> simp at hob <;> omega
    have hO : ordC M o nl B A ST C := hO0.sd ho hq
    refine r_iload_n hG dX8_passDay_2 rfl ?_
    refine r_aload_n hG dX8_passDay_3 rfl ?_
    refine r_getIv hG 8 (nI ns) fk_X8_77 dX8_passDay_4 rfl (by decide) rfl hns ?_
    refine r_icmp_ge hG 25 dX8_passDay_7 (by decide) (fun hc7 => ?_) (fun hc7 => absurd (nle_f (a := ns) (b := i) (by omega) (by omega) hc7) (by omega))
    refine r_iconst hG (0) dX8_passDay_25 (by decide) ?_
    refine r_istore_n hG dX8_passDay_26 (by decide) ?_
    refine r_loc [some (.ref 0), some (.int (0))] rfl ?_
    have ei : i = ns := by omega
    have e0 : M = itr fRun ns M0 := by rw [hM, ei]
    subst e0
    exact lp_X8_passDay2 hG hE hR0 hnv0 lv hns0 ls hnt0 lt hnb0 lb hob hO0 hts0 hnw0 lw hq nv 0 _ (by omega) rfl hP
  | succ r ih =>
    intro i M hi hM hP
    have hq : gEq Sd M0 M := by rw [hM]; exact hpre.trans (itr_eq (N := 4) (fun i M hi => fRun_eq (by omega)) i _ (by omega))
    have hR : M.2.2 = stdR b := by rw [hq.1]; exact hR0
    have hnv : M.1 0 7 = nI nv := (hq.2 0 7 (by unfold Sd Sp Sc; omega)).trans hnv0
    have hns : M.1 0 8 = nI ns := (hq.2 0 8 (by unfold Sd Sp Sc; omega)).trans hns0
    have hnt : M.1 0 9 = nI nt := (hq.2 0 9 (by unfold Sd Sp Sc; omega)).trans hnt0
    have hnb : M.1 0 10 = nI nb := (hq.2 0 10 (by unfold Sd Sp Sc; omega)).trans hnb0
    have hts : ∀ t, t < nt → M.1 (t + 74) 0 = nI (sp t) ∧ sp t < ns := fun t h => ⟨(hq.2 (t + 74) 0 (by unfold Sd Sp Sc; omega)).trans (hts0 t h).1, (hts0 t h).2⟩
    have ho : o = 11 ∨ o = 17 := by cases b <;> simp at hob <;> omega
    have hO : ordC M o nl B A ST C := hO0.sd ho hq
    refine r_iload_n hG dX8_passDay_2 rfl ?_
    refine r_aload_n hG dX8_passDay_3 rfl ?_
    refine r_getIv hG 8 (nI ns) fk_X8_77 dX8_passDay_4 rfl (by decide) rfl hns ?_
    refine r_icmp_ge hG 25 dX8_passDay_7 (by decide) (fun hc7 => absurd (nle_t (a := ns) (b := i) (by omega) (by omega) hc7) (by omega)) (fun hc7 => ?_)
    refine r_aload_n hG dX8_passDay_10 rfl ?_
    refine r_getR hG 1 2 fk_X8_17 dX8_passDay_11 rfl (by decide) rfl (sr hR rfl) ?_
    refine r_iload_n hG dX8_passDay_14 rfl ?_
    refine r_aald5 hG i (2 * i + 66) dX8_passDay_15 rfl (by decide) rfl (by omega) (by decide) (sr hR rfl) ?_
    refine r_cVV0 hG mk_X8_279 dX8_passDay_16 (gkS (by omega)) (show (2 * i + 66) < 140 by omega) (ct_X4_run hR (i := i) (by omega)) (by decide) ⟨Nat.le_refl _, Nat.le_refl _⟩ (Nat.le_of_ble_eq_true rfl) (fun M9 h9 => ?_)
    rw [h9]
    refine r_mem (fRun i M) rfl ?_
    refine r_iinc hG (1) dX8_passDay_19 (by decide) rfl ?_
    refine r_loc [some (.ref 0), some (.int ((nI i) + (1)))] rfl ?_
    refine r_goto hG 2 dX8_passDay_22 (by decide) ?_
    rw [nI_1]
    exact ih (i + 1) _ (by omega) (by rw [hM]; rfl) hP

set_option maxRecDepth 100000 in
set_option maxHeartbeats 400000 in
theorem ct_X8_passDay {M : gM} {b : Bool} (hR : M.2.2 = stdR b) {nv ns nt nb : Nat} (hnv : M.1 0 7 = nI nv) (lv : nv ≤ 12) (hns : M.1 0 8 = nI ns) (ls : ns ≤ 4) (hnt : M.1 0 9 = nI nt) (lt : nt ≤ 4) (hnb : M.1 0 10 = nI nb) (lb : nb ≤ 10) {o : Nat} (hob : o = if b then 17 else 11) {nl : Nat} {B : Nat → Bool} {A : Nat → Int32} {ST : Nat → Nat} {C : Nat → Nat × Int32} (hO : ordC M o nl B A ST C) {sp : Nat → Nat} (hts : ∀ t, t < nt → M.1 (t + 74) 0 = nI (sp t) ∧ sp t < ns) {nw : Nat} (hnw : M.1 0 12 = nI nw) (lw : nw < 400) : gC 18 0 0 yX8_passDay cX8_passDay 2 none 140 140 [.ref 0] M (gV (fun M9 => dayR M M9 ns nt nv nl nw sp B A ST C)) := by
  refine gC_v rfl (Nat.le_of_ble_eq_true rfl) (fun G hG hE => ?_)
  change G (140, 0, 0) 0 [some (.ref 0), none] [] M
  refine r_iconst hG (0) dX8_passDay_0 (by decide) ?_
  refine r_istore_n hG dX8_passDay_1 (by decide) ?_
  refine r_loc [some (.ref 0), some (.int (0))] rfl ?_
  exact lp_X8_passDay1 hG hE hR hnv lv hns ls hnt lt hnb lb hob hO hts hnw lw gEq.rf ns 0 M (by omega) rfl (fun M9 h9 => h9)

/-- n days from day nw on -/
def daysR (ns nt nv nl : Nat) (sp : Nat → Nat) (B : Nat → Bool) (A : Nat → Int32) (ST : Nat → Nat) (C : Nat → Nat × Int32) (nw : Nat) : Nat → gM → gM → Prop
  | 0, M, M9 => M9 = M
  | n + 1, M, M9 => ∃ M1, daysR ns nt nv nl sp B A ST C nw n M M1 ∧ dayR M1 M9 ns nt nv nl (nw + n) sp B A ST C
theorem daysR.eq {ns nt nv nl : Nat} {sp : Nat → Nat} {B : Nat → Bool} {A : Nat → Int32} {ST : Nat → Nat} {C : Nat → Nat × Int32} {nw : Nat} : ∀ {n : Nat} {M M9 : gM}, daysR ns nt nv nl sp B A ST C nw n M M9 → M.1 0 12 = nI nw → gEq Sd M M9 ∧ M9.1 0 12 = nI (nw + n)
  | 0, M, M9, h, hw => by cases h; exact ⟨gEq.rf, hw⟩
  | n + 1, M, M9, ⟨M1, h1, h2⟩, hw => ⟨(daysR.eq h1 hw).1.trans h2.eq.1, h2.eq.2⟩
set_option maxRecDepth 100000 in
set_option maxHeartbeats 400000 in
theorem lp_X8_days  {G : gJ} {P : Int32 → gM → Prop} (hG : gS 19 0 0 yX8_days.cls cX8_days 3 G) (hE : gEi 140 0 0 cX8_days .int P G) {M0 : gM} {b : Bool} (hR0 : M0.2.2 = stdR b) {nv ns nt nb : Nat} (hnv0 : M0.1 0 7 = nI nv) (lv : nv ≤ 12) (hns0 : M0.1 0 8 = nI ns) (ls : ns ≤ 4) (hnt0 : M0.1 0 9 = nI nt) (lt : nt ≤ 4) (hnb0 : M0.1 0 10 = nI nb) (lb : nb ≤ 10) {o : Nat} (hob : o = if b then 17 else 11) {nl : Nat} {B : Nat → Bool} {A : Nat → Int32} {ST : Nat → Nat} {C : Nat → Nat × Int32} (hO0 : ordC M0 o nl B A ST C) {sp : Nat → Nat} (hts0 : ∀ t, t < nt → M0.1 (t + 74) 0 = nI (sp t) ∧ sp t < ns) {nw : Nat} (hnw0 : M0.1 0 12 = nI nw) (lw : nw < 400) {n : Nat} (ln : nw + n < 400) :
    ∀ (r i : Nat) (M : gM), i + r = n → daysR ns nt nv nl sp B A ST C nw i M0 M → (∀ M9, daysR ns nt nv nl sp B A ST C nw n M0 M9 → P (nI (nw + n)) M9) → G (140, 0, 0) 26 [some (.ref 0), some (.int (nI n)), some (.int (nI i))] [] M := by
  intro r
  induction r with
  | zero =>
    intro i M hi hd hP
    obtain ⟨hq, h12⟩ := hd.eq hnw0
    have hR : M.2.2 = stdR b := by rw [hq.1]; exact hR0
    have hnv : M.1 0 7 = nI nv := (hq.2 0 7 (by unfold Sd Sp Sc; omega)).trans hnv0
    have hns : M.1 0 8 = nI ns := (hq.2 0 8 (by unfold Sd Sp Sc; omega)).trans hns0
    have hnt : M.1 0 9 = nI nt := (hq.2 0 9 (by unfold Sd Sp Sc; omega)).trans hnt0
    have hnb : M.1 0 10 = nI nb := (hq.2 0 10 (by unfold Sd Sp Sc; omega)).trans hnb0
    have hts : ∀ t, t < nt → M.1 (t + 74) 0 = nI (sp t) ∧ sp t < ns := fun t h => ⟨(hq.2 (t + 74) 0 (by unfold Sd Sp Sc; omega)).trans (hts0 t h).1, (hts0 t h).2⟩
    have ho : o = 11 ∨ o = 17 := by cases b <;> simp at hob <;> omega
    have hO : ordC M o nl B A ST C := hO0.sd ho hq
    refine r_iload_n hG dX8_days_26 rfl ?_
    refine r_iload_n hG dX8_days_27 rfl ?_
    refine r_icmp_ge hG 41 dX8_days_28 (by decide) (fun hc28 => ?_) (fun hc28 => absurd (nle_f (a := n) (b := i) (by omega) (by omega) hc28) (by omega))
    refine r_aload_n hG dX8_days_41 rfl ?_
    refine r_getIv hG 12 (nI (nw + i)) fk_X8_154 dX8_days_42 rfl (by decide) rfl h12 ?_
    refine hE _ _ _ _ _ dX8_days_45 rfl (Nat.le_refl _) (Nat.le_refl _) rfl ?_
    have ei : i = n := by omega
    subst ei
    exact hP M hd
  | succ r ih =>
    intro i M hi hd hP
    obtain ⟨hq, h12⟩ := hd.eq hnw0
    have hR : M.2.2 = stdR b := by rw [hq.1]; exact hR0
    have hnv : M.1 0 7 = nI nv := (hq.2 0 7 (by unfold Sd Sp Sc; omega)).trans hnv0
    have hns : M.1 0 8 = nI ns := (hq.2 0 8 (by unfold Sd Sp Sc; omega)).trans hns0
    have hnt : M.1 0 9 = nI nt := (hq.2 0 9 (by unfold Sd Sp Sc; omega)).trans hnt0
    have hnb : M.1 0 10 = nI nb := (hq.2 0 10 (by unfold Sd Sp Sc; omega)).trans hnb0
    have hts : ∀ t, t < nt → M.1 (t + 74) 0 = nI (sp t) ∧ sp t < ns := fun t h => ⟨(hq.2 (t + 74) 0 (by unfold Sd Sp Sc; omega)).trans (hts0 t h).1, (hts0 t h).2⟩
    have ho : o = 11 ∨ o = 17 := by cases b <;> simp at hob <;> omega
    have hO : ordC M o nl B A ST C := hO0.sd ho hq
    refine r_iload_n hG dX8_days_26 rfl ?_
    refine r_iload_n hG dX8_days_27 rfl ?_
    refine r_icmp_ge hG 41 dX8_days_28 (by decide) (fun hc28 => absurd (nle_t (a := n) (b := i) (by omega) (by omega) hc28) (by omega)) (fun hc28 => ?_)
    refine r_aload_n hG dX8_days_31 rfl ?_
    refine r_cVV0 hG mk_X8_157 dX8_days_32 rfl (by decide) (ct_X8_passDay hR hnv lv hns ls hnt lt hnb lb hob hO hts (nw := nw + i) h12 (by omega)) (by decide) ⟨Nat.le_refl _, Nat.le_refl _⟩ (Nat.le_of_ble_eq_true rfl) (fun M32 h9 => ?_)
    skip
    refine r_iinc hG (1) dX8_days_35 (by decide) rfl ?_
    refine r_loc [some (.ref 0), some (.int (nI n)), some (.int ((nI i) + (1)))] rfl ?_
    refine r_goto hG 26 dX8_days_38 (by decide) ?_
    rw [nI_1]
    exact ih (i + 1) M32 (by omega) ⟨M, hd, h9⟩ hP

set_option maxRecDepth 100000 in
set_option maxHeartbeats 400000 in
theorem ct_X8_days {M : gM} {b : Bool} (hR : M.2.2 = stdR b) {nv ns nt nb : Nat} (hnv : M.1 0 7 = nI nv) (lv : nv ≤ 12) (hns : M.1 0 8 = nI ns) (ls : ns ≤ 4) (hnt : M.1 0 9 = nI nt) (lt : nt ≤ 4) (hnb : M.1 0 10 = nI nb) (lb : nb ≤ 10) {o : Nat} (hob : o = if b then 17 else 11) {nl : Nat} {B : Nat → Bool} {A : Nat → Int32} {ST : Nat → Nat} {C : Nat → Nat × Int32} (hO : ordC M o nl B A ST C) {sp : Nat → Nat} (hts : ∀ t, t < nt → M.1 (t + 74) 0 = nI (sp t) ∧ sp t < ns) {nw : Nat} (hnw : M.1 0 12 = nI nw) (lw : nw < 400) (x : Int32) : gC 19 0 0 yX8_days cX8_days 3 (some .int) 140 140 [.ref 0, .int x] M (gI (fun r M9 => (∃ n, x = nI n ∧ n ≤ 30 ∧ nw + n < 400 ∧ daysR ns nt nv nl sp B A ST C nw n M M9 ∧ r = nI (nw + n)) ∨ (¬ (∃ n, x = nI n ∧ n ≤ 30 ∧ nw + n < 400) ∧ r = -1 ∧ M9 = M))) := by
  refine gC_i rfl (Nat.le_of_ble_eq_true rfl) (fun G hG hE => ?_)
  change G (140, 0, 0) 0 [some (.ref 0), some (.int x), none] [] M
  refine r_iload_n hG dX8_days_0 rfl ?_
  refine r_iconst hG (0) dX8_days_1 (by decide) ?_
  refine r_bipush hG (30) dX8_days_2 (by decide) ?_
  refine r_cSI3 hG mk_X8_55 dX8_days_4 (ct_X8_within _ _ _) (by decide) ⟨Nat.le_refl _, Nat.le_refl _⟩ (Nat.le_of_ble_eq_true rfl) (fun x9 M9 h9 => ?_)
  obtain ⟨h8, e9⟩ := h9; rw [e9]; rcases h8 with ⟨e8, hw4⟩ | ⟨e8, hw4⟩
  · rw [e8]
    refine r_if_eq hG 22 dX8_days_7 (by decide) (fun hc7 => absurd hc7 (by decide)) (fun hc7 => ?_)
    refine r_iload_n hG dX8_days_10 rfl ?_
    refine r_sipush hG (399) dX8_days_11 (by decide) ?_
    refine r_aload_n hG dX8_days_14 rfl ?_
    refine r_getIv hG 12 (nI nw) fk_X8_154 dX8_days_15 rfl (by decide) rfl hnw ?_
    refine r_isub hG dX8_days_18 ?_
    refine r_icmp_le hG 24 dX8_days_19 (by decide) (fun hc19 => ?_) (fun hc19 => ?_)
    · refine r_iconst hG (0) dX8_days_24 (by decide) ?_
      refine r_istore_n hG dX8_days_25 (by decide) ?_
      refine r_loc [some (.ref 0), some (.int x), some (.int (0))] rfl ?_
      obtain ⟨n, hn30, rfl⟩ : ∃ n : Nat, n ≤ 30 ∧ x = nI n := nI_of2 (M := 30) (by decide) (Int32.not_lt.mpr hw4.1) hw4.2
      have hs : (399 : Int32) - nI nw = nI (399 - nw) := pk_sub (a := 399) (b := nw) (by omega)
      rw [hs] at hc19
      have hn := nle_t (a := n) (b := 399 - nw) (by omega) (by omega) hc19
      exact lp_X8_days hG hE hR hnv lv hns ls hnt lt hnb lb hob hO hts hnw lw (n := n) (by omega) n 0 M (by omega) rfl (fun M9 h9 => Or.inl ⟨n, rfl, hn30, by omega, h9, rfl⟩)
    · refine r_iconst hG (-1) dX8_days_22 (by decide) ?_
      refine hE _ _ _ _ _ dX8_days_23 rfl (Nat.le_refl _) (Nat.le_refl _) rfl ?_
      refine Or.inr ⟨?_, rfl, rfl⟩
      rintro ⟨n, q1, q2, q3⟩
      rw [q1] at hc19
      exact hc19 (by rw [show (399 : Int32) - nI nw = nI (399 - nw) from pk_sub (a := 399) (b := nw) (by omega)]; exact nI_le (by omega) (by omega))
  · rw [e8]
    refine r_if_eq hG 22 dX8_days_7 (by decide) (fun hc7 => ?_) (fun hc7 => absurd hc7 (by decide))
    refine r_iconst hG (-1) dX8_days_22 (by decide) ?_
    refine hE _ _ _ _ _ dX8_days_23 rfl (Nat.le_refl _) (Nat.le_refl _) rfl ?_
    refine Or.inr ⟨?_, rfl, rfl⟩
    rintro ⟨n, q1, q2, q3⟩
    exact hw4 (by rw [q1]; exact ⟨nI_pos' (by omega), nI_le (b := 30) (by omega) (by omega)⟩)


/-- the model's line, behind its test -/
def liP (q : kS) (h n st : Nat) (s0 : mS) (M0 M9 : gM) : Prop := gEq (SM (660 * h + n + st) (660 * h + 660)) M0 M9 ∧ ∃ m a d u W c, Run q.2.1 s0 (m, a, d, u, W, c) ∧ ((m = 8 ∧ psM M9 h n st a d u W c ∧ a < q.1) ∨ ∃ k, m = 10 + k ∧ pfM q (n + st) M9 k a)
def SLn (h n st k j : Nat) : Prop := (k = 94 ∧ j = h) ∨ ((k = 95 ∨ k = 96 ∨ k = 97) ∧ j = 16 * h + n ∧ n < 16) ∨ SM (660 * h + n + st) (660 * h + 660) k j
theorem SLn_no {h n st : Nat} : ∀ k j, SLn h n st k j → k ≠ 90 ∧ k ≠ 91 := by
  intro k j q
  unfold SLn SM at q
  omega
theorem SML {h n st k j : Nat} (q : SM (660 * h + n + st) (660 * h + 660) k j) : SLn h n st k j := Or.inr (Or.inr q)
def ordMp (M : gM) (h : Nat) (s : oT) : Prop := M.1 94 h = nI s.1 ∧ M.1 88 18 = nI (s.1 + s.2.2.2.1 s.1) ∧ ∀ i, i < s.1 → M.1 95 (16 * h + i) = (if s.2.1 i then 1 else 0) ∧ M.1 96 (16 * h + i) = s.2.2.1 i ∧ M.1 97 (16 * h + i) = nI (660 * h + i + s.2.2.2.1 i) ∧ (∀ j, s.2.2.2.1 i ≤ j → j < s.2.2.2.1 (i + 1) → M.1 98 (660 * h + i + j) = opv (s.2.2.2.2 j) ∧ M.1 99 (660 * h + i + j) = onev (s.2.2.2.2 j)) ∧ M.1 98 (660 * h + i + s.2.2.2.1 (i + 1)) = 0
def lnM (q : kS) (h : Nat) (s : oT) (a : Nat) (M M9 : gM) : Prop := gEq (SLn h s.1 (s.2.2.2.1 s.1)) M M9 ∧ ∃ k a' u' c', lnG q.2.1 s.1 a (s.2.2.2.1 s.1) s.2.2.2.2 = (k, a', u', c') ∧ a' < q.1 ∧ ((k = 0 ∧ ordMp M9 h (oTn s (decide ((q.2.1 a).1 = 13)) (q.2.1 (a + 1)).2 u' c') ∧ oOK (oTn s (decide ((q.2.1 a).1 = 13)) (q.2.1 (a + 1)).2 u' c') ∧ M9.1 88 7 = nI a' ∧ M9.1 88 8 = 0 ∧ u' ≤ a' ∧ a < a') ∨ (1 ≤ k ∧ k ≤ 5 ∧ M9.1 88 8 = nI k + 16 * nI (q.2.2 a')))
theorem ordMp.nx {M M9 : gM} {h : Nat} {s : oT} (p : ordMp M h s) (hk : oOK s) (hg : gEq (SLn h s.1 (s.2.2.2.1 s.1)) M M9) {be : Bool} {li : Int32} {u' : Nat} {c' : cS} (hu : s.2.2.2.1 s.1 ≤ u') (hc : ∀ j, j < s.2.2.2.1 s.1 → c' j = s.2.2.2.2 j) (e94 : M9.1 94 h = nI (s.1 + 1)) (e18 : M9.1 88 18 = nI (s.1 + 1 + u')) (e95 : M9.1 95 (16 * h + s.1) = (if be then 1 else 0)) (e96 : M9.1 96 (16 * h + s.1) = li) (e97 : M9.1 97 (16 * h + s.1) = nI (660 * h + s.1 + s.2.2.2.1 s.1)) (e98 : ∀ j, s.2.2.2.1 s.1 ≤ j → j < u' → M9.1 98 (660 * h + s.1 + j) = opv (c' j) ∧ M9.1 99 (660 * h + s.1 + j) = onev (c' j)) (e0 : M9.1 98 (660 * h + s.1 + u') = 0) : ordMp M9 h (oTn s be li u' c') := by
  have e1 : (oTn s be li u' c').2.2.2.1 (s.1 + 1) = u' := if_pos rfl
  have e : ∀ i, i ≤ s.1 → (oTn s be li u' c').2.2.2.1 i = s.2.2.2.1 i := fun i hi => if_neg (by omega)
  refine ⟨e94, by rw [show (oTn s be li u' c').1 = s.1 + 1 from rfl, e1]; exact e18, fun i (hi : i < s.1 + 1) => ?_⟩
  by_cases ei : i = s.1
  · subst ei
    rw [e _ (Nat.le_refl _), e1]
    refine ⟨?_, ?_, e97, e98, e0⟩
    · rw [e95]
      show _ = (if (if s.1 = s.1 then be else _) = true then _ else _)
      rw [if_pos rfl]
    · rw [e96]
      exact (if_pos rfl).symm
  · obtain ⟨p1, p2, p3, p4, p5⟩ := p.2.2 i (by omega)
    have hST := ST_le (fun k hk2 => (hk.2.2.1 k hk2).1) (i + 1) (by omega)
    rw [e i (by omega), e (i + 1) (by omega)]
    refine ⟨?_, ?_, ?_, fun j h1 h2 => ?_, ?_⟩
    · rw [hg.2 95 _ (by unfold SLn SM; omega), p1]
      show _ = (if (if i = s.1 then be else s.2.1 i) = true then _ else _)
      rw [if_neg ei]
    · rw [hg.2 96 _ (by unfold SLn SM; omega), p2]
      exact (if_neg ei).symm
    · rw [hg.2 97 _ (by unfold SLn SM; omega), p3]
    · rw [hg.2 98 _ (by unfold SLn SM; omega), hg.2 99 _ (by unfold SLn SM; omega)]
      show _ = opv (c' j) ∧ _ = onev (c' j)
      rw [hc j (by omega)]
      exact p4 j h1 h2
    · rw [hg.2 98 _ (by unfold SLn SM; omega), p5]
set_option maxRecDepth 100000 in
set_option maxHeartbeats 400000 in
theorem lp_X9_line {G : gJ} {P : gM → Prop} (hG : gS 3 0 0 yX9_line.cls cX9_line 4 G) (hE : gEv 140 0 0 cX9_line P G) {M0 : gM} {b : Bool} (hR0 : M0.2.2 = stdR b) {q : kS} (hk0 : tkM M0 q) (tw : tkW q) (wd0 : wdM M0) {h n st : Nat} (lh : h ≤ 1) (ln : n ≤ 16) {c0 : cS} {s0 : mS} (hI : mInv st c0 s0) (hU : uInv s0) {x1 : Option Value} {x2 : Int32} : ∀ (r a d : Nat) (u : Nat) (W : wS) (c : cS) (M : gM) (_x : Nat), q.1 ≤ a + r → gSt q h n st s0 M0 0 a d u W c M → (∀ x3 M9, liP q h n st s0 M0 M9 → G (140, 0, 0) 236 [some (.ref 88), x1, some (.int x2), x3] [] M9) → G (140, 0, 0) 202 [some (.ref 88), x1, some (.int x2), some (.int (1))] [] M := by
  intro r
  induction r with
  | zero =>
    intro a d u W c M x0 hqr gs hX
    have := gs.2.2.2
    omega
  | succ r ih =>
    intro a d u W c M x0 hqr gs hX
    obtain ⟨hg, hrn, hp, ha⟩ := gs
    have hR : M.2.2 = stdR b := by rw [hg.1]; exact hR0
    have hk : tkM M q := hk0.mv hg SM_no
    have wd : wdM M := wd0.mv hg.1
    have h601 := tw.2.1
    obtain ⟨i1, i2, -, -, i5, -, i7, i8, i9, -⟩ := mInv_run tw.2.2.2.2.1 hrn hI (by omega)
    have hu : u + (pend W d + wn (W d)) ≤ a := uInv_run hrn hU (by omega)
    have hok := i5 d (Nat.le_refl d)
    refine r_iload_n hG dX9_line_202 rfl ?_
    refine r_if_eq hG 236 dX9_line_203 (by decide) (fun hc203 => absurd hc203 (by decide)) (fun hc203 => ?_)
    refine r_aload_n hG dX9_line_206 rfl ?_
    refine r_getIv hG 8 (0) fk_X9_219 dX9_line_207 rfl (by decide) rfl hp.2.1 ?_
    refine r_if_ne hG 236 dX9_line_210 (by decide) (fun hc210 => absurd hc210 (by decide)) (fun hc210 => ?_)
    refine r_aload_n hG dX9_line_213 rfl ?_
    refine r_cVI0 hG mk_X9_261 dX9_line_214 rfl (by decide) (ct_X9_part hR hk tw wd hp ha lh ln i1 i2 (by omega)) (by decide) ⟨Nat.le_refl _, Nat.le_refl _⟩ (Nat.le_of_ble_eq_true rfl) (fun x9 M1 h9 => ?_)
    obtain ⟨hg1, m, a1, d1, u1, W1, c1, hst, ⟨rfl, rfl, hp1, l1, l2⟩ | ⟨rfl, rfl, hp1, l1, l2⟩ | ⟨rfl, k, rfl, hf⟩⟩ := h9
    · have hR1 : M1.2.2 = stdR b := by rw [hg1.1]; exact hR
      have hrn1 := hrn.trans (Run.st hst)
      refine r_if_ne hG 227 dX9_line_217 (by decide) (fun hc217 => ?_) (fun hc217 => absurd hc217 (by decide))
      refine r_iconst hG (1) dX9_line_227 (by decide) ?_
      refine r_goto hG 232 dX9_line_228 (by decide) ?_
      refine r_istore_n hG dX9_line_232 (by decide) ?_
      refine r_loc [some (.ref 88), x1, some (.int x2), some (.int (1))] rfl ?_
      refine r_goto hG 202 dX9_line_233 (by decide) ?_
      exact ih a1 d1 u1 W1 c1 M1 0 (by omega) ⟨hg.trans hg1, hrn1, hp1, l2⟩ hX
    · have hR1 : M1.2.2 = stdR b := by rw [hg1.1]; exact hR
      have hrn1 := hrn.trans (Run.st hst)
      have hk1 : tkM M1 q := hk.mv hg1 SM_no
      have wd1 : wdM M1 := wd.mv hg1.1
      refine r_if_ne hG 227 dX9_line_217 (by decide) (fun hc217 => absurd hc217 (by decide)) (fun hc217 => ?_)
      refine r_aload_n hG dX9_line_220 rfl ?_
      refine r_cVI0 hG mk_X9_265 dX9_line_221 rfl (by decide) (ct_X9_goesOnBehind hR1 hk1 tw wd1 lh ln hp1 l2 (mInv_run tw.2.2.2.2.1 hrn1 hI) (uInv_run hrn1 hU)) (by decide) ⟨Nat.le_refl _, Nat.le_refl _⟩ (Nat.le_of_ble_eq_true rfl) (fun x9 M2 h9 => ?_)
      obtain ⟨hg2, m, a2, d2, u2, W2, c2, hr2, ⟨rfl, rfl, hp2, l3⟩ | ⟨rfl, rfl, hp2, l3⟩ | ⟨rfl, k, rfl, hf⟩⟩ := h9
      · have la : a1 ≤ a2 := at_run hr2
        refine r_if_eq hG 231 dX9_line_224 (by decide) (fun hc224 => absurd hc224 (by decide)) (fun hc224 => ?_)
        refine r_iconst hG (1) dX9_line_227 (by decide) ?_
        refine r_goto hG 232 dX9_line_228 (by decide) ?_
        refine r_istore_n hG dX9_line_232 (by decide) ?_
        refine r_loc [some (.ref 88), x1, some (.int x2), some (.int (1))] rfl ?_
        refine r_goto hG 202 dX9_line_233 (by decide) ?_
        exact ih a2 d2 u2 W2 c2 M2 0 (by omega) ⟨(hg.trans hg1).trans hg2, hrn1.trans hr2, hp2, l3⟩ hX
      · skip
        refine r_if_eq hG 231 dX9_line_224 (by decide) (fun hc224 => ?_) (fun hc224 => absurd hc224 (by decide))
        refine r_iconst hG (0) dX9_line_231 (by decide) ?_
        refine r_istore_n hG dX9_line_232 (by decide) ?_
        refine r_loc [some (.ref 88), x1, some (.int x2), some (.int (0))] rfl ?_
        refine r_goto hG 202 dX9_line_233 (by decide) ?_
        refine r_iload_n hG dX9_line_202 rfl ?_
        refine r_if_eq hG 236 dX9_line_203 (by decide) (fun hc203 => ?_) (fun hc203 => absurd hc203 (by decide))
        exact hX _ _ ⟨(hg.trans hg1).trans hg2, _, _, _, _, _, _, hrn1.trans hr2, Or.inl ⟨rfl, hp2, l3⟩⟩
      · skip
        refine r_if_eq hG 231 dX9_line_224 (by decide) (fun hc224 => ?_) (fun hc224 => absurd hc224 (by decide))
        refine r_iconst hG (0) dX9_line_231 (by decide) ?_
        refine r_istore_n hG dX9_line_232 (by decide) ?_
        refine r_loc [some (.ref 88), x1, some (.int x2), some (.int (0))] rfl ?_
        refine r_goto hG 202 dX9_line_233 (by decide) ?_
        refine r_iload_n hG dX9_line_202 rfl ?_
        refine r_if_eq hG 236 dX9_line_203 (by decide) (fun hc203 => ?_) (fun hc203 => absurd hc203 (by decide))
        exact hX _ _ ⟨(hg.trans hg1).trans hg2, _, _, _, _, _, _, hrn1.trans hr2, Or.inr ⟨k, rfl, hf⟩⟩
    · have hR1 : M1.2.2 = stdR b := by rw [hg1.1]; exact hR
      have hrn1 := hrn.trans (Run.st hst)
      have h8f : ¬ M1.1 88 8 = 0 := by rw [hf.2.2.2.1]; exact flt_nz rfl ⟨hf.1, hf.2.1⟩ (tw.2.2.2.2.2 _ hf.2.2.1)
      refine r_if_ne hG 227 dX9_line_217 (by decide) (fun hc217 => absurd hc217 (by decide)) (fun hc217 => ?_)
      refine r_aload_n hG dX9_line_220 rfl ?_
      refine r_cVI0 hG mk_X9_265 dX9_line_221 rfl (by decide) (ct_X9_goF hR1 h8f) (by decide) ⟨Nat.le_refl _, Nat.le_refl _⟩ (Nat.le_of_ble_eq_true rfl) (fun x9 M2 h9 => ?_)
      obtain ⟨rfl, rfl⟩ := h9
      · show G _ _ _ _ _
        refine r_if_eq hG 231 dX9_line_224 (by decide) (fun hc224 => ?_) (fun hc224 => absurd hc224 (by decide))
        refine r_iconst hG (0) dX9_line_231 (by decide) ?_
        refine r_istore_n hG dX9_line_232 (by decide) ?_
        refine r_loc [some (.ref 88), x1, some (.int x2), some (.int (0))] rfl ?_
        refine r_goto hG 202 dX9_line_233 (by decide) ?_
        refine r_iload_n hG dX9_line_202 rfl ?_
        refine r_if_eq hG 236 dX9_line_203 (by decide) (fun hc203 => ?_) (fun hc203 => absurd hc203 (by decide))
        exact hX _ _ ⟨hg.trans hg1, _, _, _, _, _, _, hrn1, Or.inr ⟨k, rfl, hf⟩⟩

set_option maxRecDepth 100000 in
set_option maxHeartbeats 400000 in
theorem sl236f {G : gJ} {P : gM → Prop} (hG : gS 3 0 0 yX9_line.cls cX9_line 4 G) (hE : gEv 140 0 0 cX9_line P G) {M0 : gM} {b : Bool} (hR0 : M0.2.2 = stdR b) {h n st : Nat} (lh : h ≤ 1) (h170 : M0.1 88 17 = nI h) {x1 x2 x3 : Option Value} {M : gM} (hg : gEq (SLn h n st) M0 M) {z : Nat} (hz : z < 659) (hzl : n + st ≤ z) (h18 : M.1 88 18 = nI z) {v : Int32} (h8 : M.1 88 8 = v) (hv : ¬ v = 0) (hP : ∀ M9, gEq (SLn h n st) M0 M9 → M9.1 88 8 = v → P M9)  : G (140, 0, 0) 236 [some (.ref 88), x1, x2, x3] [] M := by
  have hR : M.2.2 = stdR b := by rw [hg.1]; exact hR0
  have h17 : M.1 88 17 = nI h := (hg.2 88 17 (by unfold SLn SM; omega)).trans h170
  refine r_aload_n hG dX9_line_236 rfl ?_
  refine r_iconst hG (0) dX9_line_237 (by decide) ?_
  refine r_iconst hG (0) dX9_line_238 (by decide) ?_
  refine r_cVV2 hG mk_X9_268 dX9_line_239 rfl (by decide) (ct_X9_emit hR h17 h18 lh (by omega) _ _) (by decide) ⟨Nat.le_refl _, Nat.le_refl _⟩ (Nat.le_of_ble_eq_true rfl) (fun M9 h9 => ?_)
  rw [h9]
  refine r_aload_n hG dX9_line_242 rfl ?_
  refine r_bipush hG (59) dX9_line_243 (by decide) ?_
  refine r_cVV1 hG mk_X9_272 dX9_line_245 rfl (by decide) (ct_X9_takeSignF (M := (gwI (gwI (gwI M 98 (660 * h + z) (0)) 99 (660 * h + z) (0)) 88 18 (nI z + 1))) (by exact hR) (by rw [gwI_n (by omega), gwI_n (by omega), gwI_n (by omega), h8]; exact hv) _) (by decide) ⟨Nat.le_refl _, Nat.le_refl _⟩ (Nat.le_of_ble_eq_true rfl) (fun M9 h9 => ?_)
  rw [h9]
  refine r_aload_n hG dX9_line_248 rfl ?_
  refine r_getR hG 10 94 fk_X9_57 dX9_line_249 rfl (by decide) rfl (sr hR rfl) ?_
  refine r_aload_n hG dX9_line_252 rfl ?_
  refine r_getIv hG 17 (nI h) fk_X9_235 dX9_line_253 rfl (by decide) rfl (((gwI_n (by omega)).trans ((gwI_n (by omega)).trans (gwI_n (by omega)))).trans h17) ?_
  refine r_dup2 hG dX9_line_256 rfl rfl ?_
  refine r_ialdv hG h (M.1 94 h) dX9_line_257 rfl (by decide) rfl (by omega) (by decide) ((gwI_n (by omega)).trans ((gwI_n (by omega)).trans (gwI_n (by omega)))) ?_
  refine r_iconst hG (1) dX9_line_258 (by decide) ?_
  refine r_iadd hG dX9_line_259 ?_
  refine r_iast hG h dX9_line_260 rfl (by decide) rfl (by omega) (by decide) ?_
  refine hE _ _ _ _ dX9_line_261 rfl (Nat.le_refl _) (Nat.le_refl _) ?_
  exact hP _ ((((hg.put (by unfold SLn SM; omega)).put (by unfold SLn SM; omega)).put (by unfold SLn SM; omega)).put (by unfold SLn SM; omega)) (by rw [gwI_n (by omega), gwI_n (by omega), gwI_n (by omega), gwI_n (by omega)]; exact h8)

set_option maxRecDepth 100000 in
set_option maxHeartbeats 400000 in
theorem sl167f {G : gJ} {P : gM → Prop} (hG : gS 3 0 0 yX9_line.cls cX9_line 4 G) (hE : gEv 140 0 0 cX9_line P G) {M0 : gM} {b : Bool} (hR0 : M0.2.2 = stdR b) {h n st : Nat} (lh : h ≤ 1) (h170 : M0.1 88 17 = nI h) {M : gM} {x1 x3 : Option Value} (ln : n < 16) {a7 : Nat} (h7 : M.1 88 7 = nI a7) (hg : gEq (SLn h n st) M0 M) {z : Nat} (hz : z < 659) (hzl : n + st ≤ z) (h18 : M.1 88 18 = nI z) {v : Int32} (h8 : M.1 88 8 = v) (hv : ¬ v = 0) (hP : ∀ M9, gEq (SLn h n st) M0 M9 → M9.1 88 8 = v → P M9)  : G (140, 0, 0) 167 [some (.ref 88), x1, some (.int (nI (16 * h + n))), x3] [] M := by
  have hR : M.2.2 = stdR b := by rw [hg.1]; exact hR0
  have h17 : M.1 88 17 = nI h := (hg.2 88 17 (by unfold SLn SM; omega)).trans h170
  refine r_aload_n hG dX9_line_167 rfl ?_
  refine r_iconst hG (2) dX9_line_168 (by decide) ?_
  refine r_cVV1 hG mk_X9_252 dX9_line_169 rfl (by decide) (ct_X9_takeWordF hR (by rw [h8]; exact hv) h7 _) (by decide) ⟨Nat.le_refl _, Nat.le_refl _⟩ (Nat.le_of_ble_eq_true rfl) (fun M9 h9 => ?_)
  rw [h9]
  refine r_aload_n hG dX9_line_172 rfl ?_
  refine r_getR hG 13 97 fk_X9_67 dX9_line_173 rfl (by decide) rfl (sr hR rfl) ?_
  refine r_iload_n hG dX9_line_176 rfl ?_
  refine r_sipush hG (660) dX9_line_177 (by decide) ?_
  refine r_aload_n hG dX9_line_180 rfl ?_
  refine r_getIv hG 17 (nI h) fk_X9_235 dX9_line_181 rfl (by decide) rfl h17 ?_
  refine r_imul hG dX9_line_184 ?_
  refine r_aload_n hG dX9_line_185 rfl ?_
  refine r_getIv hG 18 (nI z) fk_X9_238 dX9_line_186 rfl (by decide) rfl h18 ?_
  refine r_iadd hG dX9_line_189 ?_
  refine r_top (nI (660 * h + z)) (by rw [show (660 : Int32) = nI 660 from rfl, mulAdd]) ?_
  refine r_iast hG (16 * h + n) dX9_line_190 rfl (by decide) rfl (by omega) (by decide) ?_
  refine r_aload_n hG dX9_line_191 rfl ?_
  refine r_iconst hG (0) dX9_line_192 (by decide) ?_
  refine r_putI hG 19 fp_X9_255 dX9_line_193 rfl (by decide) rfl rfl rfl ?_
  refine r_aload_n hG dX9_line_196 rfl ?_
  refine r_cVV0 hG mk_X9_258 dX9_line_197 rfl (by decide) (ct_X9_opens (M := (gwI (gwI M 97 (16 * h + n) (nI (660 * h + z))) 88 19 0)) (by exact hR) (d := 0) gwI_s (by omega)) (by decide) ⟨Nat.le_refl _, Nat.le_refl _⟩ (Nat.le_of_ble_eq_true rfl) (fun M9 h9 => ?_)
  rw [h9]
  refine r_iconst hG (1) dX9_line_200 (by decide) ?_
  refine r_istore_n hG dX9_line_201 (by decide) ?_
  refine r_loc [some (.ref 88), x1, some (.int (nI (16 * h + n))), some (.int (1))] rfl ?_
  refine r_iload_n hG dX9_line_202 rfl ?_
  refine r_if_eq hG 236 dX9_line_203 (by decide) (fun hc203 => absurd hc203 (by decide)) (fun hc203 => ?_)
  refine r_aload_n hG dX9_line_206 rfl ?_
  refine r_getIv hG 8 (M.1 88 8) fk_X9_219 dX9_line_207 rfl (by decide) rfl ((gwI_n (by omega)).trans ((gwI_n (by omega)).trans ((gwI_n (by omega)).trans ((gwI_n (by omega)).trans (gwI_n (by omega)))))) ?_
  refine r_if_ne hG 236 dX9_line_210 (by decide) (fun hc210 => ?_) (fun hc210 => absurd hc210 (by rw [h8]; exact hv))
  exact sl236f hG hE hR0 lh h170 (((((hg.put (by unfold SLn SM; omega)).put (by unfold SLn SM; omega)).put (by unfold SLn SM; omega)).put (by unfold SLn SM; omega)).put (by unfold SLn SM; omega)) hz hzl (by rw [gwI_n (by omega), gwI_n (by omega), gwI_n (by omega), gwI_n (by omega), gwI_n (by omega)]; exact h18) (by rw [gwI_n (by omega), gwI_n (by omega), gwI_n (by omega), gwI_n (by omega), gwI_n (by omega)]; exact h8) hv hP

set_option maxRecDepth 100000 in
set_option maxHeartbeats 400000 in
theorem sl236 {G : gJ} {P : gM → Prop} (hG : gS 3 0 0 yX9_line.cls cX9_line 4 G) (hE : gEv 140 0 0 cX9_line P G) {M0 : gM} {b : Bool} (hR0 : M0.2.2 = stdR b) {q : kS} (hk0 : tkM M0 q) (tw : tkW q) (wd0 : wdM M0) {h : Nat} (lh : h ≤ 1) (h170 : M0.1 88 17 = nI h) {s : oT} (hs : ordMp M0 h s) (hO : oOK s) {a : Nat} (ha2 : a + 2 < q.1) (hu : s.2.2.2.1 s.1 ≤ a) (hkd : (q.2.1 a).1 = 12 ∨ (q.2.1 a).1 = 13) (hn16 : s.1 ≠ 16) (h0 : (q.2.1 (a + 1)).1 = 0) (h99 : ¬ 99 < (q.2.1 (a + 1)).2) {x1 x2 x3 : Option Value} {M : gM} (hg : gEq (SLn h s.1 (s.2.2.2.1 s.1)) M0 M) (e95 : M.1 95 (16 * h + s.1) = (if decide ((q.2.1 a).1 = 13) = true then 1 else 0)) (e96 : M.1 96 (16 * h + s.1) = (q.2.1 (a + 1)).2) (hP : ∀ M9, lnM q h s a M0 M9 → P M9) (h14 : (q.2.1 (a + 2)).1 = 14) (e97 : M.1 97 (16 * h + s.1) = nI (660 * h + s.1 + s.2.2.2.1 s.1)) (e94 : M.1 94 h = nI s.1) {a1 u1 : Nat} {W1 : wS} {c1 : cS} (hr : Run q.2.1 (0, a + 3, 0, s.2.2.2.1 s.1, Wz, s.2.2.2.2) (8, a1, 0, u1, W1, c1)) (hp : psM M h s.1 (s.2.2.2.1 s.1) a1 0 u1 W1 c1) (ha1 : a1 < q.1) (lu : u1 ≤ a1) (lsu : s.2.2.2.1 s.1 ≤ u1) (la : a + 3 ≤ a1)  : G (140, 0, 0) 236 [some (.ref 88), x1, x2, x3] [] M := by
  have hR : M.2.2 = stdR b := by rw [hg.1]; exact hR0
  have h17 : M.1 88 17 = nI h := (hg.2 88 17 (by unfold SLn SM; omega)).trans h170
  have hk : tkM M q := hk0.mv hg SLn_no
  have wd : wdM M := wd0.mv hg.1
  have h601 := tw.2.1
  have h16 := hO.1
  refine r_aload_n hG dX9_line_236 rfl ?_
  refine r_iconst hG (0) dX9_line_237 (by decide) ?_
  refine r_iconst hG (0) dX9_line_238 (by decide) ?_
  refine r_cVV2 hG mk_X9_268 dX9_line_239 rfl (by decide) (ct_X9_emit hR h17 hp.2.2.2.1 lh (by omega) _ _) (by decide) ⟨Nat.le_refl _, Nat.le_refl _⟩ (Nat.le_of_ble_eq_true rfl) (fun M9 h9 => ?_)
  rw [h9]
  refine r_aload_n hG dX9_line_242 rfl ?_
  refine r_bipush hG (59) dX9_line_243 (by decide) ?_
  refine r_cVV1 hG mk_X9_272 dX9_line_245 rfl (by decide) (ct_X9_takeSign (M := (gwI (gwI (gwI M 98 (660 * h + (s.1 + u1)) (0)) 99 (660 * h + (s.1 + u1)) (0)) 88 18 (nI (s.1 + u1) + 1))) (by exact hR) (hk.mv (S := SLn h s.1 u1) (((gEq.rf.put (by unfold SLn SM; omega)).put (by unfold SLn SM; omega)).put (by unfold SLn SM; omega)) SLn_no) tw.2.1 (by rw [gwI_n (by omega), gwI_n (by omega), gwI_n (by omega)]; exact hp.1) ha1 (by rw [gwI_n (by omega), gwI_n (by omega), gwI_n (by omega)]; exact hp.2.1) (c := 17) (by decide) rfl) (by decide) ⟨Nat.le_refl _, Nat.le_refl _⟩ (Nat.le_of_ble_eq_true rfl) (fun M9 h9 => ?_)
  rcases h9 with ⟨hw, rfl⟩ | ⟨hw, rfl⟩
  · skip
    refine r_aload_n hG dX9_line_248 rfl ?_
    refine r_getR hG 10 94 fk_X9_57 dX9_line_249 rfl (by decide) rfl (sr hR rfl) ?_
    refine r_aload_n hG dX9_line_252 rfl ?_
    refine r_getIv hG 17 (nI h) fk_X9_235 dX9_line_253 rfl (by decide) rfl (((gwI_n (by omega)).trans ((gwI_n (by omega)).trans ((gwI_n (by omega)).trans (gwI_n (by omega))))).trans h17) ?_
    refine r_dup2 hG dX9_line_256 rfl rfl ?_
    refine r_ialdv hG h (nI s.1) dX9_line_257 rfl (by decide) rfl (by omega) (by decide) (((gwI_n (by omega)).trans ((gwI_n (by omega)).trans ((gwI_n (by omega)).trans (gwI_n (by omega))))).trans e94) ?_
    refine r_iconst hG (1) dX9_line_258 (by decide) ?_
    refine r_iadd hG dX9_line_259 ?_
    refine r_iast hG h dX9_line_260 rfl (by decide) rfl (by omega) (by decide) ?_
    refine hE _ _ _ _ dX9_line_261 rfl (Nat.le_refl _) (Nat.le_refl _) ?_
    obtain ⟨k1, k2, k3⟩ := hO.nx tw.2.2.2.2.1 (by omega) (be := decide ((q.2.1 a).1 = 13)) (li := (q.2.1 (a + 1)).2) hr (by omega)
    refine hP _ ⟨(((((hg.put (by unfold SLn SM; omega)).put (by unfold SLn SM; omega)).put (by unfold SLn SM; omega)).put (by unfold SLn SM; omega)).put (by unfold SLn SM; omega)), 0, a1 + 1, u1, c1, ln_8 hkd hn16 h0 h99 h14 hr hw, tw.nx ha1 (by omega), Or.inl ⟨rfl, ?_, k1, by rw [gwI_n (by omega), gwI_s, nI_1], by rw [gwI_n (by omega), gwI_n (by omega), gwI_n (by omega), gwI_n (by omega), gwI_n (by omega)]; exact hp.2.1, by omega, by omega⟩⟩
    refine hs.nx hO (((((hg.put (by unfold SLn SM; omega)).put (by unfold SLn SM; omega)).put (by unfold SLn SM; omega)).put (by unfold SLn SM; omega)).put (by unfold SLn SM; omega)) k2 k3 (by rw [gwI_s, nI_1]) ?_ ?_ ?_ ?_ (fun j h1 h2 => ?_) ?_
    · rw [gwI_n (by omega), gwI_n (by omega), gwI_s, nI_1]; congr 1; omega
    · rw [gwI_n (by omega), gwI_n (by omega), gwI_n (by omega), gwI_n (by omega), gwI_n (by omega)]; exact e95
    · rw [gwI_n (by omega), gwI_n (by omega), gwI_n (by omega), gwI_n (by omega), gwI_n (by omega)]; exact e96
    · rw [gwI_n (by omega), gwI_n (by omega), gwI_n (by omega), gwI_n (by omega), gwI_n (by omega)]; exact e97
    · rw [gwI_n (a := 98) (by omega), gwI_n (a := 98) (by omega), gwI_n (a := 98) (by omega), gwI_n (a := 98) (by omega), gwI_n (a := 98) (by omega), gwI_n (a := 99) (by omega), gwI_n (a := 99) (by omega), gwI_n (a := 99) (by omega), gwI_n (a := 99) (by omega), gwI_n (a := 99) (by omega)]
      exact hp.2.2.2.2.2.2 j h1 h2
    · rw [gwI_n (by omega), gwI_n (by omega), gwI_n (by omega), gwI_n (by omega), show 660 * h + s.1 + u1 = 660 * h + (s.1 + u1) by omega, gwI_s]
  · show G _ _ _ _ _
    refine r_aload_n hG dX9_line_248 rfl ?_
    refine r_getR hG 10 94 fk_X9_57 dX9_line_249 rfl (by decide) rfl (sr hR rfl) ?_
    refine r_aload_n hG dX9_line_252 rfl ?_
    refine r_getIv hG 17 (nI h) fk_X9_235 dX9_line_253 rfl (by decide) rfl (((gwI_n (by omega)).trans ((gwI_n (by omega)).trans ((gwI_n (by omega)).trans (gwI_n (by omega))))).trans h17) ?_
    refine r_dup2 hG dX9_line_256 rfl rfl ?_
    refine r_ialdv hG h (nI s.1) dX9_line_257 rfl (by decide) rfl (by omega) (by decide) (((gwI_n (by omega)).trans ((gwI_n (by omega)).trans ((gwI_n (by omega)).trans (gwI_n (by omega))))).trans e94) ?_
    refine r_iconst hG (1) dX9_line_258 (by decide) ?_
    refine r_iadd hG dX9_line_259 ?_
    refine r_iast hG h dX9_line_260 rfl (by decide) rfl (by omega) (by decide) ?_
    refine hE _ _ _ _ dX9_line_261 rfl (Nat.le_refl _) (Nat.le_refl _) ?_
    exact hP _ ⟨(((((hg.put (by unfold SLn SM; omega)).put (by unfold SLn SM; omega)).put (by unfold SLn SM; omega)).put (by unfold SLn SM; omega)).put (by unfold SLn SM; omega)), 1, a1, _, _, ln_7 hkd hn16 h0 h99 h14 hr hw, ha1, Or.inr ⟨by omega, by omega, by rw [gwI_n (by omega), gwI_s]; rfl⟩⟩

set_option maxRecDepth 100000 in
set_option maxHeartbeats 400000 in
theorem sl167 {G : gJ} {P : gM → Prop} (hG : gS 3 0 0 yX9_line.cls cX9_line 4 G) (hE : gEv 140 0 0 cX9_line P G) {M0 : gM} {b : Bool} (hR0 : M0.2.2 = stdR b) {q : kS} (hk0 : tkM M0 q) (tw : tkW q) (wd0 : wdM M0) {h : Nat} (lh : h ≤ 1) (h170 : M0.1 88 17 = nI h) {s : oT} (hs : ordMp M0 h s) (hO : oOK s) {a : Nat} (ha2 : a + 2 < q.1) (hu : s.2.2.2.1 s.1 ≤ a) (hkd : (q.2.1 a).1 = 12 ∨ (q.2.1 a).1 = 13) (hn16 : s.1 ≠ 16) (h0 : (q.2.1 (a + 1)).1 = 0) (h99 : ¬ 99 < (q.2.1 (a + 1)).2) {x1 x3 : Option Value} {M : gM} (hg : gEq (SLn h s.1 (s.2.2.2.1 s.1)) M0 M) (e95 : M.1 95 (16 * h + s.1) = (if decide ((q.2.1 a).1 = 13) = true then 1 else 0)) (e96 : M.1 96 (16 * h + s.1) = (q.2.1 (a + 1)).2) (hP : ∀ M9, lnM q h s a M0 M9 → P M9) (h18 : M.1 88 18 = nI (s.1 + (s.2.2.2.1 s.1))) (h7 : M.1 88 7 = nI (a + 2)) (h8 : M.1 88 8 = 0) (e94 : M.1 94 h = nI s.1)  : G (140, 0, 0) 167 [some (.ref 88), x1, some (.int (nI (16 * h + s.1))), x3] [] M := by
  have hR : M.2.2 = stdR b := by rw [hg.1]; exact hR0
  have h17 : M.1 88 17 = nI h := (hg.2 88 17 (by unfold SLn SM; omega)).trans h170
  have hk : tkM M q := hk0.mv hg SLn_no
  have wd : wdM M := wd0.mv hg.1
  have h601 := tw.2.1
  have h16 := hO.1
  refine r_aload_n hG dX9_line_167 rfl ?_
  refine r_iconst hG (2) dX9_line_168 (by decide) ?_
  refine r_cVV1 hG mk_X9_252 dX9_line_169 rfl (by decide) (ct_X9_takeWord hR hk tw.2.1 h7 ha2 h8 wd (w := 2) (by decide) rfl) (by decide) ⟨Nat.le_refl _, Nat.le_refl _⟩ (Nat.le_of_ble_eq_true rfl) (fun M9 h9 => ?_)
  rcases h9 with ⟨hw, rfl⟩ | ⟨hw, rfl⟩
  · skip
    refine r_aload_n hG dX9_line_172 rfl ?_
    refine r_getR hG 13 97 fk_X9_67 dX9_line_173 rfl (by decide) rfl (sr hR rfl) ?_
    refine r_iload_n hG dX9_line_176 rfl ?_
    refine r_sipush hG (660) dX9_line_177 (by decide) ?_
    refine r_aload_n hG dX9_line_180 rfl ?_
    refine r_getIv hG 17 (nI h) fk_X9_235 dX9_line_181 rfl (by decide) rfl ((gwI_n (by omega)).trans h17) ?_
    refine r_imul hG dX9_line_184 ?_
    refine r_aload_n hG dX9_line_185 rfl ?_
    refine r_getIv hG 18 (nI (s.1 + (s.2.2.2.1 s.1))) fk_X9_238 dX9_line_186 rfl (by decide) rfl ((gwI_n (by omega)).trans h18) ?_
    refine r_iadd hG dX9_line_189 ?_
    refine r_top (nI (660 * h + (s.1 + (s.2.2.2.1 s.1)))) (by rw [show (660 : Int32) = nI 660 from rfl, mulAdd]) ?_
    refine r_iast hG (16 * h + s.1) dX9_line_190 rfl (by decide) rfl (by omega) (by decide) ?_
    refine r_aload_n hG dX9_line_191 rfl ?_
    refine r_iconst hG (0) dX9_line_192 (by decide) ?_
    refine r_putI hG 19 fp_X9_255 dX9_line_193 rfl (by decide) rfl rfl rfl ?_
    refine r_aload_n hG dX9_line_196 rfl ?_
    refine r_cVV0 hG mk_X9_258 dX9_line_197 rfl (by decide) (ct_X9_opens (M := (gwI (gwI (gwI M 88 7 (nI (a + 2) + 1)) 97 (16 * h + s.1) (nI (660 * h + (s.1 + (s.2.2.2.1 s.1))))) 88 19 0)) (by exact hR) (d := 0) gwI_s (by omega)) (by decide) ⟨Nat.le_refl _, Nat.le_refl _⟩ (Nat.le_of_ble_eq_true rfl) (fun M9 h9 => ?_)
    rw [h9]
    refine r_iconst hG (1) dX9_line_200 (by decide) ?_
    refine r_istore_n hG dX9_line_201 (by decide) ?_
    refine r_loc [some (.ref 88), x1, some (.int (nI (16 * h + s.1))), some (.int (1))] rfl ?_
    have hgO : gEq (SLn h s.1 (s.2.2.2.1 s.1)) M (gwI (gwI (gwI (gwI (gwI (gwI M 88 7 (nI (a + 2) + 1)) 97 (16 * h + s.1) (nI (660 * h + (s.1 + (s.2.2.2.1 s.1))))) 88 19 0) 100 0 0) 101 0 0) 102 0 0) := ((((((gEq.rf.put (by unfold SLn SM; omega)).put (by unfold SLn SM; omega)).put (by unfold SLn SM; omega)).put (by unfold SLn SM; omega)).put (by unfold SLn SM; omega)).put (by unfold SLn SM; omega))
    have hg' := hg.trans hgO
    have hpO : psM (gwI (gwI (gwI (gwI (gwI (gwI M 88 7 (nI (a + 2) + 1)) 97 (16 * h + s.1) (nI (660 * h + (s.1 + (s.2.2.2.1 s.1))))) 88 19 0) 100 0 0) 101 0 0) 102 0 0) h s.1 (s.2.2.2.1 s.1) (a + 3) 0 (s.2.2.2.1 s.1) Wz s.2.2.2.2 := by
      refine ⟨by rw [gwI_n (by omega), gwI_n (by omega), gwI_n (by omega), gwI_n (by omega), gwI_n (by omega), gwI_s, nI_1], by rw [gwI_n (by omega), gwI_n (by omega), gwI_n (by omega), gwI_n (by omega), gwI_n (by omega), gwI_n (by omega)]; exact h8, by rw [gwI_n (by omega), gwI_n (by omega), gwI_n (by omega), gwI_n (by omega), gwI_n (by omega), gwI_n (by omega)]; exact h17, by rw [gwI_n (by omega), gwI_n (by omega), gwI_n (by omega), gwI_n (by omega), gwI_n (by omega), gwI_n (by omega)]; exact h18, by rw [gwI_n (by omega), gwI_n (by omega), gwI_n (by omega), gwI_s]; rfl, fun k hk => ?_, fun j h1 h2 => absurd h2 (by omega)⟩
      obtain rfl : k = 0 := by omega
      refine ⟨?_, ?_, ?_⟩
      · rw [gwI_n (by omega), gwI_n (by omega), gwI_s]; rfl
      · rw [gwI_n (by omega), gwI_s]; rfl
      · rw [gwI_s]; rfl
    have ha3 : a + 3 < q.1 := tw.nx ha2 (by have : (q.2.1 (a + 2)).1 = 14 := hw; omega)
    have hI : mInv (s.2.2.2.1 s.1) s.2.2.2.2 (0, a + 3, 0, (s.2.2.2.1 s.1), Wz, s.2.2.2.2) := fun _ => ⟨by omega, Nat.le_refl _, fun _ _ => rfl, fun j h1 h2 => by omega, fun k hk => ⟨Or.inl rfl, Or.inl rfl, Or.inl rfl⟩, by rw [Nat.sub_self]; rfl, fun z => by omega, fun z => by omega, fun z => by omega, fun z => by omega⟩
    have hU : uInv (0, a + 3, 0, (s.2.2.2.1 s.1), Wz, s.2.2.2.2) := fun _ => by show (s.2.2.2.1 s.1) + 0 ≤ a + 3; omega
    refine lp_X9_line hG hE (M0 := (gwI (gwI (gwI (gwI (gwI (gwI M 88 7 (nI (a + 2) + 1)) 97 (16 * h + s.1) (nI (660 * h + (s.1 + (s.2.2.2.1 s.1))))) 88 19 0) 100 0 0) 101 0 0) 102 0 0)) (by exact hR) (hk.mv hgO SLn_no) tw (wd.mv hgO.1) lh (by omega) hI hU q.1 (a + 3) 0 _ Wz _ _ 0 (by omega) ⟨gEq.rf, Run.rf, hpO, ha3⟩ (fun x3 M9 hl => ?_)
    obtain ⟨g1, m, a1, d1, u1, W1, c1, hr, h⟩ := hl
    have g2 := hg'.trans (g1.mono (fun _ _ => SML))
    rcases h with ⟨rfl, hp, la1⟩ | ⟨k, rfl, hf⟩
    · have hd0 : d1 = 0 := (mInv_run tw.2.2.2.2.1 hr hI (Nat.le_refl 8)).2.2.2.2.2.2.2.2.2 rfl
      subst hd0
      have hua : u1 + (pend W1 0 + wn (W1 0)) ≤ a1 := uInv_run hr hU (Nat.le_refl 8)
      have hla : a + 3 ≤ a1 := at_run hr
      refine sl236 hG hE hR0 hk0 tw wd0 lh h170 hs hO ha2 hu hkd hn16 h0 h99 g2 ?_ ?_ hP hw ?_ ?_ hr hp la1 (by omega) (mInv_run tw.2.2.2.2.1 hr hI (Nat.le_refl 8)).2.1 hla
      · rw [g1.2 95 _ (by unfold SM; omega), gwI_n (by omega), gwI_n (by omega), gwI_n (by omega), gwI_n (by omega), gwI_n (by omega), gwI_n (by omega)]; exact e95
      · rw [g1.2 96 _ (by unfold SM; omega), gwI_n (by omega), gwI_n (by omega), gwI_n (by omega), gwI_n (by omega), gwI_n (by omega), gwI_n (by omega)]; exact e96
      · rw [g1.2 97 _ (by unfold SM; omega), gwI_n (by omega), gwI_n (by omega), gwI_n (by omega), gwI_n (by omega), gwI_s, ← Nat.add_assoc]
      · rw [g1.2 94 _ (by unfold SM; omega), gwI_n (by omega), gwI_n (by omega), gwI_n (by omega), gwI_n (by omega), gwI_n (by omega), gwI_n (by omega)]; exact e94
    · obtain ⟨f1, f2, f3, f4, ⟨z, ⟨f50, f5⟩, f6⟩, -⟩ := hf
      refine sl236f hG hE hR0 lh h170 g2 f5 f50 f6 f4 (flt_nz rfl ⟨f1, f2⟩ (tw.2.2.2.2.2 _ f3)) (fun M9 q1 q2 => hP M9 ⟨q1, k, a1, _, _, ln_6 hkd hn16 h0 h99 hw hr, f3, Or.inr ⟨f1, f2, q2⟩⟩)
  · show G _ _ _ _ _
    refine r_aload_n hG dX9_line_172 rfl ?_
    refine r_getR hG 13 97 fk_X9_67 dX9_line_173 rfl (by decide) rfl (sr hR rfl) ?_
    refine r_iload_n hG dX9_line_176 rfl ?_
    refine r_sipush hG (660) dX9_line_177 (by decide) ?_
    refine r_aload_n hG dX9_line_180 rfl ?_
    refine r_getIv hG 17 (nI h) fk_X9_235 dX9_line_181 rfl (by decide) rfl ((gwI_n (by omega)).trans h17) ?_
    refine r_imul hG dX9_line_184 ?_
    refine r_aload_n hG dX9_line_185 rfl ?_
    refine r_getIv hG 18 (nI (s.1 + (s.2.2.2.1 s.1))) fk_X9_238 dX9_line_186 rfl (by decide) rfl ((gwI_n (by omega)).trans h18) ?_
    refine r_iadd hG dX9_line_189 ?_
    refine r_top (nI (660 * h + (s.1 + (s.2.2.2.1 s.1)))) (by rw [show (660 : Int32) = nI 660 from rfl, mulAdd]) ?_
    refine r_iast hG (16 * h + s.1) dX9_line_190 rfl (by decide) rfl (by omega) (by decide) ?_
    refine r_aload_n hG dX9_line_191 rfl ?_
    refine r_iconst hG (0) dX9_line_192 (by decide) ?_
    refine r_putI hG 19 fp_X9_255 dX9_line_193 rfl (by decide) rfl rfl rfl ?_
    refine r_aload_n hG dX9_line_196 rfl ?_
    refine r_cVV0 hG mk_X9_258 dX9_line_197 rfl (by decide) (ct_X9_opens (M := (gwI (gwI (gwI M 88 8 (1 + 16 * nI (q.2.2 (a + 2)))) 97 (16 * h + s.1) (nI (660 * h + (s.1 + (s.2.2.2.1 s.1))))) 88 19 0)) (by exact hR) (d := 0) gwI_s (by omega)) (by decide) ⟨Nat.le_refl _, Nat.le_refl _⟩ (Nat.le_of_ble_eq_true rfl) (fun M9 h9 => ?_)
    rw [h9]
    refine r_iconst hG (1) dX9_line_200 (by decide) ?_
    refine r_istore_n hG dX9_line_201 (by decide) ?_
    refine r_loc [some (.ref 88), x1, some (.int (nI (16 * h + s.1))), some (.int (1))] rfl ?_
    refine r_iload_n hG dX9_line_202 rfl ?_
    refine r_if_eq hG 236 dX9_line_203 (by decide) (fun hc203 => absurd hc203 (by decide)) (fun hc203 => ?_)
    refine r_aload_n hG dX9_line_206 rfl ?_
    refine r_getIv hG 8 (1 + 16 * nI (q.2.2 (a + 2))) fk_X9_219 dX9_line_207 rfl (by decide) rfl ((gwI_n (by omega)).trans ((gwI_n (by omega)).trans ((gwI_n (by omega)).trans ((gwI_n (by omega)).trans ((gwI_n (by omega)).trans gwI_s))))) ?_
    refine r_if_ne hG 236 dX9_line_210 (by decide) (fun hc210 => ?_) (fun hc210 => absurd hc210 (flt_nz (k := 1) rfl ⟨by omega, by omega⟩ (tw.2.2.2.2.2 _ ha2)))
    exact sl236f hG hE hR0 lh h170 ((((((hg.put (by unfold SLn SM; omega)).put (by unfold SLn SM; omega)).put (by unfold SLn SM; omega)).put (by unfold SLn SM; omega)).put (by unfold SLn SM; omega)).put (by unfold SLn SM; omega)) (z := s.1 + (s.2.2.2.1 s.1)) (by omega) (Nat.le_refl _) (by rw [gwI_n (by omega), gwI_n (by omega), gwI_n (by omega), gwI_n (by omega), gwI_n (by omega), gwI_n (by omega)]; exact h18) (v := 1 + 16 * nI (q.2.2 (a + 2))) (by rw [gwI_n (by omega), gwI_n (by omega), gwI_n (by omega), gwI_n (by omega), gwI_n (by omega), gwI_s]) (flt_nz (k := 1) rfl ⟨by omega, by omega⟩ (tw.2.2.2.2.2 _ ha2)) (fun M9 q1 q2 => hP M9 ⟨q1, 1, a + 2, _, _, ln_5 hkd hn16 h0 h99 hw, ha2, Or.inr ⟨by omega, by omega, q2⟩⟩)


/-- where the class's reader stands: place, no fault, steps so far -/
def psC (M : gM) (o a u : Nat) (c : cS) : Prop := M.1 6 3 = nI a ∧ M.1 6 4 = 0 ∧ M.1 o 6 = nI u ∧ ∀ j, j < u → M.1 (o + 4) j = stv (c j)
def S46 (o k j : Nat) : Prop := k = o + 4 ∨ (k = o ∧ j = 6) ∨ (k = 6 ∧ (j = 3 ∨ j = 4))
theorem tkC.mv {M M9 : gM} {q : kS} {S : Nat → Nat → Prop} (h : tkC M q) (g : gEq S M M9) (hS : ∀ k j, S k j → k ≠ 9 ∧ k ≠ 10 ∧ k ≠ 7) : tkC M9 q :=
  ⟨(g.2 7 4 (fun z => (hS _ _ z).2.2 rfl)).trans h.1, fun i hi => ⟨(g.2 9 i (fun z => (hS _ _ z).1 rfl)).trans (h.2 i hi).1, (g.2 10 i (fun z => (hS _ _ z).2.1 rfl)).trans (h.2 i hi).2⟩⟩
theorem S46_no {o : Nat} (ho : o = 11 ∨ o = 17) : ∀ k j, S46 o k j → k ≠ 9 ∧ k ≠ 10 ∧ k ≠ 7 := by
  intro k j h
  unfold S46 at h
  omega
theorem psC.at {M : gM} {o a u : Nat} {c : cS} (ho : o = 11 ∨ o = 17) (h : psC M o a u c) : psC (gwI M 6 3 (nI a + 1)) o (a + 1) u c :=
  ⟨by rw [gwI_s, nI_1], by rw [gwI_n (by omega)]; exact h.2.1, by rw [gwI_n (by omega)]; exact h.2.2.1, fun j hj => by rw [gwI_n (by omega)]; exact h.2.2.2 j hj⟩
theorem psC.push {M : gM} {o a u : Nat} {c : cS} (ho : o = 11 ∨ o = 17) (h : psC M o a u c) {x : Int32} {t : Nat × Int32} (hx : x = stv t) : psC (gwI (gwI M (o + 4) u x) o 6 (nI u + 1)) o a (u + 1) (cset c u t) := by
  refine ⟨by rw [gwI_n (by omega), gwI_n (by omega)]; exact h.1, by rw [gwI_n (by omega), gwI_n (by omega)]; exact h.2.1, by rw [gwI_s, nI_1], fun j hj => ?_⟩
  rw [gwI_n (by omega)]
  by_cases e : j = u
  · subst e; rw [gwI_s, cset_s]; exact hx
  · rw [gwI_n (by omega), cset_n e]; exact h.2.2.2 j (by omega)
/-- the reading failed: the machine's fault, told -/
def pF (q : kS) (o : Nat) (s : mS) (M9 : gM) : Prop := ∃ k a d u W c, Run q.2.1 s (10 + k, a, d, u, W, c) ∧ 1 ≤ k ∧ k ≤ 5 ∧ a < q.1 ∧ M9.1 6 4 = nI k + 16 * nI (q.2.2 a) ∧ ∃ u', u' ≤ 600 ∧ M9.1 o 6 = nI u'
/-- the reading went on: the machine is in mode m at the same depth -/
def pT (q : kS) (o d a u : Nat) (W : wS) (s : mS) (m : Nat) (M9 : gM) : Prop := ∃ a' u' c' W', Run q.2.1 s (m, a', d, u', W', c') ∧ (∀ k, k ≤ d → W' k = W k) ∧ psC M9 o a' u' c' ∧ a < a' ∧ a' < q.1 ∧ u' + a ≤ u + a'
def pP (q : kS) (o d a u : Nat) (W : wS) (c : cS) (m : Nat) (M : gM) (r : Int32) (M9 : gM) : Prop := gEq (S46 o) M M9 ∧ ((r = 1 ∧ pT q o d a u W (0, a, d, u, W, c) m M9) ∨ (r = 0 ∧ pF q o (0, a, d, u, W, c) M9))
theorem pF.ru {q : kS} {o : Nat} {s s' : mS} {M9 : gM} (h : pF q o s' M9) (hr : Run q.2.1 s s') : pF q o s M9 := by
  obtain ⟨k, a, d, u, W, c, h1, h2⟩ := h
  exact ⟨k, a, d, u, W, c, hr.trans h1, h2⟩
theorem pF.mv {q : kS} {o : Nat} (ho : o = 11 ∨ o = 17) {s : mS} {M M9 : gM} (h : pF q o s M) (h1 : M9.1 6 4 = M.1 6 4) (h2 : ∃ u', u' ≤ 600 ∧ M9.1 o 6 = nI u') : pF q o s M9 := by
  obtain ⟨k, a, d, u, W, c, g1, g2, g3, g4, g5, g6⟩ := h
  exact ⟨k, a, d, u, W, c, g1, g2, g3, g4, h1.trans g5, h2⟩
theorem stI {t : Nat × Int32} (h : tW t) (n : Nat) {x : Int32} (hn : n < 19) (hx : x = tk n) : stv t = x ↔ t.1 = n + 1 := by rw [hx]; exact stv_is h hn
theorem stv_sn {t : Nat × Int32} (h : t.1 ≠ 0) : stv t = stv (t.1, 0) := by
  obtain ⟨n, x⟩ := t
  cases n with
  | zero => exact absurd rfl h
  | succ n => rfl
theorem tkW.nx {q : kS} (h : tkW q) {a : Nat} (ha : a < q.1) (ht : (q.2.1 a).1 ≠ 18) : a + 1 < q.1 := by
  refine Nat.lt_of_not_le fun z => ht ?_
  rw [show a = q.1 - 1 by omega]
  exact h.2.2.1
theorem pF.one {q : kS} {o : Nat} {M : gM} {a d u : Nat} {W : wS} {c : cS} {s : mS} (k : Nat) (hk : 1 ≤ k ∧ k ≤ 5) (hr : Run q.2.1 s (10 + k, a, d, u, W, c)) (ha : a < q.1) (ho : o = 11 ∨ o = 17) (hp : psC M o a u c) (hu : u ≤ 600) {x : Int32} (hx : x = nI k) : pF q o s (gwI M 6 4 (x + 16 * nI (q.2.2 a))) :=
  ⟨k, a, d, u, W, c, hr, hk.1, hk.2, ha, by rw [gwI_s, hx], u, hu, by rw [gwI_n (by omega)]; exact hp.2.2.1⟩
theorem sdA {o : Nat} {M M1 : gM} {v : Int32} (h : gEq (S46 o) M M1) : gEq (S46 o) M (gwI M1 6 3 v) := h.put (Or.inr (Or.inr ⟨rfl, Or.inl rfl⟩))
theorem sdF {o : Nat} {M M1 : gM} {v : Int32} (h : gEq (S46 o) M M1) : gEq (S46 o) M (gwI M1 6 4 v) := h.put (Or.inr (Or.inr ⟨rfl, Or.inr rfl⟩))
theorem sdP {o : Nat} {M M1 : gM} {u : Nat} {x v : Int32} (h : gEq (S46 o) M M1) : gEq (S46 o) M (gwI (gwI M1 (o + 4) u x) o 6 v) := (h.put (Or.inl rfl)).put (Or.inr (Or.inl ⟨rfl, rfl⟩))
set_option maxRecDepth 100000 in
set_option maxHeartbeats 400000 in
theorem ct_X3_token {M : gM} {b : Bool} (hR : M.2.2 = stdR b) {q : kS} (hq : tkC M q) (tw : tkW q) {a : Nat} (h3 : M.1 6 3 = nI a) (ha : a < q.1) : gC 0 0 0 yX3_token cX3_token 1 (some .int) 140 140 [.ref 6] M (gI (fun r M9 => r = stv (q.2.1 a) ∧ M9 = M)) := by
  refine gC_i rfl (Nat.le_of_ble_eq_true rfl) (fun G hG hE => ?_)
  change G (140, 0, 0) 0 [some (.ref 6)] [] M
  have h601 := tw.2.1
  refine r_aload_n hG dX3_token_0 rfl ?_
  refine r_getIv hG 3 (nI a) fk_X3_34 dX3_token_1 rfl (by decide) rfl h3 ?_
  refine r_aload_n hG dX3_token_4 rfl ?_
  refine r_getR hG 0 7 fk_X3_12 dX3_token_5 rfl (by decide) rfl (sr hR rfl) ?_
  refine r_getIv hG 4 (nI q.1) fk_X3_49 dX3_token_8 rfl (by decide) rfl hq.1 ?_
  refine r_icmp_ge hG 29 dX3_token_11 (by decide) (fun hc11 => absurd (nle_t (a := q.1) (b := a) (by omega) (by omega) hc11) (by omega)) (fun hc11 => ?_)
  refine r_aload_n hG dX3_token_14 rfl ?_
  refine r_getR hG 0 7 fk_X3_12 dX3_token_15 rfl (by decide) rfl (sr hR rfl) ?_
  refine r_getR hG 1 9 fk_X3_52 dX3_token_18 rfl (by decide) rfl (sr hR rfl) ?_
  refine r_aload_n hG dX3_token_21 rfl ?_
  refine r_getIv hG 3 (nI a) fk_X3_34 dX3_token_22 rfl (by decide) rfl h3 ?_
  refine r_ialdv hG a (stv (q.2.1 a)) dX3_token_25 rfl (by decide) rfl (by omega) (by decide) (hq.2 a ha).1 ?_
  refine r_goto hG 31 dX3_token_26 (by decide) ?_
  refine hE _ _ _ _ _ dX3_token_31 rfl (Nat.le_refl _) (Nat.le_refl _) rfl ?_
  exact ⟨rfl, rfl⟩

set_option maxRecDepth 100000 in
set_option maxHeartbeats 400000 in
theorem ct_X3_wrong {M : gM} {b : Bool} (hR : M.2.2 = stdR b) {q : kS} (hq : tkC M q) (tw : tkW q) {a : Nat} (h3 : M.1 6 3 = nI a) (ha : a < q.1) (x : Int32) : gC 0 0 0 yX3_wrong cX3_wrong 3 (some .boolean) 140 140 [.ref 6, .int x] M (gI (fun r M9 => r = 0 ∧ M9 = gwI M 6 4 (x + 16 * nI (q.2.2 a)))) := by
  refine gC_i rfl (Nat.le_of_ble_eq_true rfl) (fun G hG hE => ?_)
  change G (140, 0, 0) 0 [some (.ref 6), some (.int x), none] [] M
  have h601 := tw.2.1
  refine r_aload_n hG dX3_wrong_0 rfl ?_
  refine r_getIv hG 3 (nI a) fk_X3_34 dX3_wrong_1 rfl (by decide) rfl h3 ?_
  refine r_aload_n hG dX3_wrong_4 rfl ?_
  refine r_getR hG 0 7 fk_X3_12 dX3_wrong_5 rfl (by decide) rfl (sr hR rfl) ?_
  refine r_getIv hG 4 (nI q.1) fk_X3_49 dX3_wrong_8 rfl (by decide) rfl hq.1 ?_
  refine r_icmp_ge hG 29 dX3_wrong_11 (by decide) (fun hc11 => absurd (nle_t (a := q.1) (b := a) (by omega) (by omega) hc11) (by omega)) (fun hc11 => ?_)
  refine r_aload_n hG dX3_wrong_14 rfl ?_
  refine r_getR hG 0 7 fk_X3_12 dX3_wrong_15 rfl (by decide) rfl (sr hR rfl) ?_
  refine r_getR hG 2 10 fk_X3_86 dX3_wrong_18 rfl (by decide) rfl (sr hR rfl) ?_
  refine r_aload_n hG dX3_wrong_21 rfl ?_
  refine r_getIv hG 3 (nI a) fk_X3_34 dX3_wrong_22 rfl (by decide) rfl h3 ?_
  refine r_ialdv hG a (nI (q.2.2 a)) dX3_wrong_25 rfl (by decide) rfl (by omega) (by decide) (hq.2 a ha).2 ?_
  refine r_goto hG 30 dX3_wrong_26 (by decide) ?_
  refine r_istore_n hG dX3_wrong_30 (by decide) ?_
  refine r_loc [some (.ref 6), some (.int x), some (.int (nI (q.2.2 a)))] rfl ?_
  refine r_aload_n hG dX3_wrong_31 rfl ?_
  refine r_iload_n hG dX3_wrong_32 rfl ?_
  refine r_bipush hG (16) dX3_wrong_33 (by decide) ?_
  refine r_iload_n hG dX3_wrong_35 rfl ?_
  refine r_imul hG dX3_wrong_36 ?_
  refine r_iadd hG dX3_wrong_37 ?_
  refine r_putI hG 4 fp_X3_38 dX3_wrong_38 rfl (by decide) rfl rfl rfl ?_
  refine r_iconst hG (0) dX3_wrong_41 (by decide) ?_
  refine hE _ _ _ _ _ dX3_wrong_42 rfl (Nat.le_refl _) (Nat.le_refl _) rfl ?_
  exact ⟨rfl, rfl⟩

set_option maxRecDepth 100000 in
set_option maxHeartbeats 400000 in
theorem ct_X3_take {M : gM} {b : Bool} (hR : M.2.2 = stdR b) {q : kS} (hq : tkC M q) (tw : tkW q) {a : Nat} (h3 : M.1 6 3 = nI a) (ha : a < q.1) (x : Int32) : gC 1 0 0 yX3_take cX3_take 2 (some .boolean) 140 140 [.ref 6, .int x] M (gI (fun r M9 => (r = 1 ∧ stv (q.2.1 a) = x ∧ M9 = gwI M 6 3 (nI a + 1)) ∨ (r = 0 ∧ ¬ stv (q.2.1 a) = x ∧ M9 = gwI M 6 4 (1 + 16 * nI (q.2.2 a))))) := by
  refine gC_i rfl (Nat.le_of_ble_eq_true rfl) (fun G hG hE => ?_)
  change G (140, 0, 0) 0 [some (.ref 6), some (.int x)] [] M
  refine r_aload_n hG dX3_take_0 rfl ?_
  refine r_cVI0 hG mk_X3_41 dX3_take_1 rfl (by decide) (ct_X3_token hR hq tw h3 ha) (by decide) ⟨Nat.le_refl _, Nat.le_refl _⟩ (Nat.le_of_ble_eq_true rfl) (fun x9 M9 h9 => ?_)
  obtain ⟨e8, e9⟩ := h9
  rw [e8, e9]
  refine r_iload_n hG dX3_take_4 rfl ?_
  refine r_icmp_eq hG 14 dX3_take_5 (by decide) (fun hc5 => ?_) (fun hc5 => ?_)
  · refine r_aload_n hG dX3_take_14 rfl ?_
    refine r_dup hG dX3_take_15 rfl ?_
    refine r_getIv hG 3 (nI a) fk_X3_34 dX3_take_16 rfl (by decide) rfl h3 ?_
    refine r_iconst hG (1) dX3_take_19 (by decide) ?_
    refine r_iadd hG dX3_take_20 ?_
    refine r_putI hG 3 fp_X3_34 dX3_take_21 rfl (by decide) rfl rfl rfl ?_
    refine r_iconst hG (1) dX3_take_24 (by decide) ?_
    refine hE _ _ _ _ _ dX3_take_25 rfl (Nat.le_refl _) (Nat.le_refl _) rfl ?_
    exact Or.inl ⟨rfl, hc5, rfl⟩
  · refine r_aload_n hG dX3_take_8 rfl ?_
    refine r_iconst hG (1) dX3_take_9 (by decide) ?_
    refine r_cVI1 hG mk_X3_56 dX3_take_10 rfl (by decide) (ct_X3_wrong hR hq tw h3 ha _) (by decide) ⟨Nat.le_refl _, Nat.le_refl _⟩ (Nat.le_of_ble_eq_true rfl) (fun x9 M9 h9 => ?_)
    obtain ⟨e8, e9⟩ := h9
    rw [e8, e9]
    refine hE _ _ _ _ _ dX3_take_13 rfl (Nat.le_refl _) (Nat.le_refl _) rfl ?_
    exact Or.inr ⟨rfl, hc5, rfl⟩

set_option maxRecDepth 100000 in
set_option maxHeartbeats 400000 in
theorem ct_X1_addStepG {M : gM} {b : Bool} (hR : M.2.2 = stdR b) {o : Nat} (ho : o = 11 ∨ o = 17) {u : Nat} (hu : M.1 o 6 = nI u) (lu : u ≤ 600) (sx : Int32) : gC 0 0 0 yX1_addStep cX1_addStep 2 none 140 140 [.ref o, .int sx] M (gV (fun M9 => gEq (S46 o) M M9 ∧ M9.1 6 4 = M.1 6 4 ∧ ∃ u', u' ≤ 600 ∧ M9.1 o 6 = nI u')) := by
  refine gC_v rfl (Nat.le_of_ble_eq_true rfl) (fun G hG hE => ?_)
  change G (140, 0, 0) 0 [some (.ref o), some (.int sx)] [] M
  refine r_aload_n hG dX1_addStep_0 rfl ?_
  refine r_getIv hG 6 (nI u) fk_X1_31 dX1_addStep_1 (gkO ho) (show o < 140 by omega) rfl hu ?_
  refine r_sipush hG (600) dX1_addStep_4 (by decide) ?_
  refine r_icmp_ge hG 30 dX1_addStep_7 (by decide) (fun hc7 => ?_) (fun hc7 => ?_)
  · have hn7 := nle_t (a := 600) (b := u) (by omega) (by omega) hc7
    refine hE _ _ _ _ dX1_addStep_30 rfl (Nat.le_refl _) (Nat.le_refl _) ?_
    exact ⟨gEq.rf, rfl, u, lu, hu⟩
  · have hn7 := nle_f (a := 600) (b := u) (by omega) (by omega) hc7
    refine r_aload_n hG dX1_addStep_10 rfl ?_
    refine r_getR hG 3 (o + 4) fk_X1_21 dX1_addStep_11 (gkO ho) (show o < 140 by omega) rfl (sr hR (sRo ho)) ?_
    refine r_aload_n hG dX1_addStep_14 rfl ?_
    refine r_getIv hG 6 (nI u) fk_X1_31 dX1_addStep_15 (gkO ho) (show o < 140 by omega) rfl hu ?_
    refine r_iload_n hG dX1_addStep_18 rfl ?_
    refine r_iast hG u dX1_addStep_19 (gkO4 ho) (show (o + 4) < 140 by omega) rfl (by omega) (by decide) ?_
    refine r_aload_n hG dX1_addStep_20 rfl ?_
    refine r_dup hG dX1_addStep_21 rfl ?_
    refine r_getIv hG 6 (nI u) fk_X1_31 dX1_addStep_22 (gkO ho) (show o < 140 by omega) rfl ((gwI_n (by omega)).trans hu) ?_
    refine r_iconst hG (1) dX1_addStep_25 (by decide) ?_
    refine r_iadd hG dX1_addStep_26 ?_
    refine r_putI hG 6 fp_X1_31 dX1_addStep_27 (gkO ho) (show o < 140 by omega) rfl rfl rfl ?_
    refine hE _ _ _ _ dX1_addStep_30 rfl (Nat.le_refl _) (Nat.le_refl _) ?_
    exact ⟨sdP gEq.rf, by rw [gwI_n (by omega), gwI_n (by omega)], u + 1, by omega, by rw [gwI_s, nI_1]⟩

def cPart (j : Nat) : Prop := ∀ (M : gM) (b : Bool) (o : Nat) (q : kS) (a u d : Nat) (W : wS) (c : cS), M.2.2 = stdR b → o = (if b then 11 else 17) → tkC M q → tkW q → psC M o a u c → a < q.1 → u ≤ a → d + j = 5 → gC (4 * j + 2) 0 0 yX3_readPart cX3_readPart 3 (some .boolean) 140 140 [.ref 6, .int (nI (d + 1))] M (gI (fun r M9 => pP q o d a u W c 1 M r M9))
def cSum (j : Nat) : Prop := ∀ (M : gM) (b : Bool) (o : Nat) (q : kS) (a u d : Nat) (W : wS) (c : cS), M.2.2 = stdR b → o = (if b then 11 else 17) → tkC M q → tkW q → psC M o a u c → a < q.1 → u ≤ a → d + j = 5 → (W d).1 = 0 → gC (4 * j + 3) 0 0 yX3_readSum cX3_readSum 5 (some .boolean) 140 140 [.ref 6, .int (nI (d + 1))] M (gI (fun r M9 => pP q o d a u W c 3 M r M9))
def cTest (j : Nat) : Prop := ∀ (M : gM) (b : Bool) (o : Nat) (q : kS) (a u d : Nat) (W : wS) (c : cS), M.2.2 = stdR b → o = (if b then 11 else 17) → tkC M q → tkW q → psC M o a u c → a < q.1 → u ≤ a → d + j = 5 → (W d).1 = 0 → (W d).2.1 = 0 → gC (4 * j + 4) 0 0 yX3_readTest cX3_readTest 4 (some .boolean) 140 140 [.ref 6, .int (nI (d + 1))] M (gI (fun r M9 => pP q o d a u W c 5 M r M9))
def cTests (j : Nat) : Prop := ∀ (M : gM) (b : Bool) (o : Nat) (q : kS) (a u d : Nat) (W : wS) (c : cS), M.2.2 = stdR b → o = (if b then 11 else 17) → tkC M q → tkW q → psC M o a u c → a < q.1 → u ≤ a → d + j = 5 → (W d).1 = 0 → (W d).2.1 = 0 → (W d).2.2 = 0 → gC (4 * j + 5) 0 0 yX3_readTests cX3_readTests 4 (some .boolean) 140 140 [.ref 6, .int (nI (d + 1))] M (gI (fun r M9 => pP q o d a u W c 7 M r M9))
set_option maxRecDepth 100000 in
set_option maxHeartbeats 400000 in
theorem cPart_0 : cPart 0 := by
  intro M b o q a u d W c hR hob hq tw hp ha hu hdj
  have ho : o = 11 ∨ o = 17 := by cases b <;> simp at hob <;> omega
  have h601 := tw.2.1
  have h3 := hp.1
  have ht : tW (q.2.1 a) := tw.2.2.2.2.1 a
  refine gC_i rfl (Nat.le_of_ble_eq_true rfl) (fun G hG hE => ?_)
  change G (140, 0, 0) 0 [some (.ref 6), some (.int (nI (d + 1))), none] [] M
  refine r_aload_n hG dX3_readPart_0 rfl ?_
  refine r_cVI0 hG mk_X3_41 dX3_readPart_1 rfl (by decide) (ct_X3_token hR hq tw h3 ha) (by omega) ⟨Nat.le_refl _, Nat.le_refl _⟩ (Nat.le_of_ble_eq_true rfl) (fun x9 M9 h9 => ?_)
  obtain ⟨e8, e9⟩ := h9
  rw [e8, e9]
  refine r_istore_n hG dX3_readPart_4 (by decide) ?_
  refine r_loc [some (.ref 6), some (.int (nI (d + 1))), some (.int (stv (q.2.1 a)))] rfl ?_
  refine r_iload_n hG dX3_readPart_5 rfl ?_
  refine r_bipush hG (-6) dX3_readPart_6 (by decide) ?_
  refine r_icmp_ge hG 23 dX3_readPart_8 (by decide) (fun hc8 => ?_) (fun hc8 => ?_)
  · refine r_iload_n hG dX3_readPart_23 rfl ?_
    refine r_iconst hG (5) dX3_readPart_24 (by decide) ?_
    refine r_icmp_le hG 34 dX3_readPart_25 (by decide) (fun hc25 => absurd (nle_t (a := (d + 1)) (b := 5) (by omega) (by omega) hc25) (by omega)) (fun hc25 => ?_)
    refine r_aload_n hG dX3_readPart_28 rfl ?_
    refine r_iconst hG (5) dX3_readPart_29 (by decide) ?_
    refine r_cVI1 hG mk_X3_56 dX3_readPart_30 rfl (by decide) (ct_X3_wrong hR hq tw h3 ha _) (by omega) ⟨Nat.le_refl _, Nat.le_refl _⟩ (Nat.le_of_ble_eq_true rfl) (fun x9 M9 h9 => ?_)
    obtain ⟨e8, e9⟩ := h9
    rw [e8, e9]
    refine hE _ _ _ _ _ dX3_readPart_33 rfl (Nat.le_refl _) (Nat.le_refl _) rfl ?_
    exact ⟨sdF gEq.rf, Or.inr ⟨rfl, pF.one 5 ⟨by omega, by omega⟩ (Run.st (by rw [show d = 5 by omega]; exact st0_l (Or.inl ((stv_part ht).mp hc8)))) ha ho hp (by omega) rfl⟩⟩
  · refine r_iload_n hG dX3_readPart_11 rfl ?_
    refine r_bipush hG (-15) dX3_readPart_12 (by decide) ?_
    refine r_icmp_eq hG 23 dX3_readPart_14 (by decide) (fun hc14 => ?_) (fun hc14 => ?_)
    · refine r_iload_n hG dX3_readPart_23 rfl ?_
      refine r_iconst hG (5) dX3_readPart_24 (by decide) ?_
      refine r_icmp_le hG 34 dX3_readPart_25 (by decide) (fun hc25 => absurd (nle_t (a := (d + 1)) (b := 5) (by omega) (by omega) hc25) (by omega)) (fun hc25 => ?_)
      refine r_aload_n hG dX3_readPart_28 rfl ?_
      refine r_iconst hG (5) dX3_readPart_29 (by decide) ?_
      refine r_cVI1 hG mk_X3_56 dX3_readPart_30 rfl (by decide) (ct_X3_wrong hR hq tw h3 ha _) (by omega) ⟨Nat.le_refl _, Nat.le_refl _⟩ (Nat.le_of_ble_eq_true rfl) (fun x9 M9 h9 => ?_)
      obtain ⟨e8, e9⟩ := h9
      rw [e8, e9]
      refine hE _ _ _ _ _ dX3_readPart_33 rfl (Nat.le_refl _) (Nat.le_refl _) rfl ?_
      exact ⟨sdF gEq.rf, Or.inr ⟨rfl, pF.one 5 ⟨by omega, by omega⟩ (Run.st (by rw [show d = 5 by omega]; exact st0_l (Or.inr ((stI ht 14 (by decide) (by decide)).mp hc14)))) ha ho hp (by omega) rfl⟩⟩
    · refine r_aload_n hG dX3_readPart_17 rfl ?_
      refine r_iconst hG (1) dX3_readPart_18 (by decide) ?_
      refine r_cVI1 hG mk_X3_56 dX3_readPart_19 rfl (by decide) (ct_X3_wrong hR hq tw h3 ha _) (by omega) ⟨Nat.le_refl _, Nat.le_refl _⟩ (Nat.le_of_ble_eq_true rfl) (fun x9 M9 h9 => ?_)
      obtain ⟨e8, e9⟩ := h9
      rw [e8, e9]
      refine hE _ _ _ _ _ dX3_readPart_22 rfl (Nat.le_refl _) (Nat.le_refl _) rfl ?_
      refine ⟨sdF gEq.rf, Or.inr ⟨rfl, pF.one 1 ⟨by omega, by omega⟩ (Run.st (st0_f ?_)) ha ho hp (by omega) rfl⟩⟩
      intro z
      rcases z with z | z
      · exact hc8 ((stv_part ht).mpr z)
      · exact hc14 ((stI ht 14 (by decide) (by decide)).mpr z)

set_option maxRecDepth 100000 in
set_option maxHeartbeats 400000 in
theorem cPart_s {j : Nat} (hT : cTests j) : cPart (j + 1) := by
  intro M b o q a u d W c hR hob hq tw hp ha hu hdj
  have ho : o = 11 ∨ o = 17 := by cases b <;> simp at hob <;> omega
  have h601 := tw.2.1
  have h3 := hp.1
  have ht : tW (q.2.1 a) := tw.2.2.2.2.1 a
  refine gC_i rfl (Nat.le_of_ble_eq_true rfl) (fun G hG hE => ?_)
  change G (140, 0, 0) 0 [some (.ref 6), some (.int (nI (d + 1))), none] [] M
  refine r_aload_n hG dX3_readPart_0 rfl ?_
  refine r_cVI0 hG mk_X3_41 dX3_readPart_1 rfl (by decide) (ct_X3_token hR hq tw h3 ha) (by omega) ⟨Nat.le_refl _, Nat.le_refl _⟩ (Nat.le_of_ble_eq_true rfl) (fun x9 M9 h9 => ?_)
  obtain ⟨e8, e9⟩ := h9
  rw [e8, e9]
  refine r_istore_n hG dX3_readPart_4 (by decide) ?_
  refine r_loc [some (.ref 6), some (.int (nI (d + 1))), some (.int (stv (q.2.1 a)))] rfl ?_
  refine r_iload_n hG dX3_readPart_5 rfl ?_
  refine r_bipush hG (-6) dX3_readPart_6 (by decide) ?_
  refine r_icmp_ge hG 23 dX3_readPart_8 (by decide) (fun hc8 => ?_) (fun hc8 => ?_)
  · refine r_iload_n hG dX3_readPart_23 rfl ?_
    refine r_iconst hG (5) dX3_readPart_24 (by decide) ?_
    refine r_icmp_le hG 34 dX3_readPart_25 (by decide) (fun hc25 => ?_) (fun hc25 => absurd (nle_f (a := (d + 1)) (b := 5) (by omega) (by omega) hc25) (by omega))
    have hnx := tw.nx ha (by have := (stv_part ht).mp hc8; omega)
    refine r_aload_n hG dX3_readPart_34 rfl ?_
    refine r_dup hG dX3_readPart_35 rfl ?_
    refine r_getIv hG 3 (nI a) fk_X3_34 dX3_readPart_36 rfl (by decide) rfl h3 ?_
    refine r_iconst hG (1) dX3_readPart_39 (by decide) ?_
    refine r_iadd hG dX3_readPart_40 ?_
    refine r_putI hG 3 fp_X3_34 dX3_readPart_41 rfl (by decide) rfl rfl rfl ?_
    refine r_iload_n hG dX3_readPart_44 rfl ?_
    refine r_bipush hG (-15) dX3_readPart_45 (by decide) ?_
    refine r_icmp_ne hG 75 dX3_readPart_47 (by decide) (fun hc47 => ?_) (fun hc47 => absurd ((stI ht 14 (by decide) (by decide)).mp hc47) (by have := (stv_part ht).mp hc8; omega))
    refine r_aload_n hG dX3_readPart_75 rfl ?_
    refine r_getR hG 2 o fk_X3_25 dX3_readPart_76 rfl (by decide) rfl (sr hR (by rw [hob]; rfl)) ?_
    refine r_iload_n hG dX3_readPart_79 rfl ?_
    refine r_cVV1 hG mk_X3_76 dX3_readPart_80 (gkO ho) (show o < 140 by omega) (ct_X1_addStep (by exact hR) ho (hp.at ho).2.2.1 (by omega) _) (by omega) ⟨Nat.le_refl _, Nat.le_refl _⟩ (Nat.le_of_ble_eq_true rfl) (fun M9 h9 => ?_)
    rw [h9]
    refine r_iconst hG (1) dX3_readPart_83 (by decide) ?_
    refine hE _ _ _ _ _ dX3_readPart_84 rfl (Nat.le_refl _) (Nat.le_refl _) rfl ?_
    refine ⟨sdP (sdA gEq.rf), Or.inl ⟨rfl, a + 1, u + 1, cset c u (q.2.1 a), W, Run.st (st0_p ((stv_part ht).mp hc8) (by omega)), fun _ _ => rfl, (hp.at ho).push ho rfl, by omega, hnx, by omega⟩⟩
  · refine r_iload_n hG dX3_readPart_11 rfl ?_
    refine r_bipush hG (-15) dX3_readPart_12 (by decide) ?_
    refine r_icmp_eq hG 23 dX3_readPart_14 (by decide) (fun hc14 => ?_) (fun hc14 => ?_)
    · refine r_iload_n hG dX3_readPart_23 rfl ?_
      refine r_iconst hG (5) dX3_readPart_24 (by decide) ?_
      refine r_icmp_le hG 34 dX3_readPart_25 (by decide) (fun hc25 => ?_) (fun hc25 => absurd (nle_f (a := (d + 1)) (b := 5) (by omega) (by omega) hc25) (by omega))
      have h15 := (stI ht 14 (by decide) (by decide)).mp hc14
      have hnx := tw.nx ha (by omega)
      have hst := st0_o (T := q.2.1) (u := u) (W := W) (c := c) (d := d) h15 (by omega)
      refine r_aload_n hG dX3_readPart_34 rfl ?_
      refine r_dup hG dX3_readPart_35 rfl ?_
      refine r_getIv hG 3 (nI a) fk_X3_34 dX3_readPart_36 rfl (by decide) rfl h3 ?_
      refine r_iconst hG (1) dX3_readPart_39 (by decide) ?_
      refine r_iadd hG dX3_readPart_40 ?_
      refine r_putI hG 3 fp_X3_34 dX3_readPart_41 rfl (by decide) rfl rfl rfl ?_
      refine r_iload_n hG dX3_readPart_44 rfl ?_
      refine r_bipush hG (-15) dX3_readPart_45 (by decide) ?_
      refine r_icmp_ne hG 75 dX3_readPart_47 (by decide) (fun hc47 => absurd hc14 hc47) (fun hc47 => ?_)
      refine r_aload_n hG dX3_readPart_50 rfl ?_
      refine r_iload_n hG dX3_readPart_51 rfl ?_
      refine r_iconst hG (1) dX3_readPart_52 (by decide) ?_
      refine r_iadd hG dX3_readPart_53 ?_
      refine r_top (nI (d + 1 + 1)) (nI_1 (d + 1)) ?_
      refine r_cVI1 hG mk_X3_70 dX3_readPart_54 rfl (by decide) (hT _ b o q (a + 1) u (d + 1) (wset W (d + 1) (0, 0, 0)) c (by exact hR) hob (hq.mv (sdA gEq.rf) (S46_no ho)) tw (hp.at ho) hnx (by omega) (by omega) (by rw [wset_s]) (by rw [wset_s]) (by rw [wset_s])) (by omega) ⟨Nat.le_refl _, Nat.le_refl _⟩ (Nat.le_of_ble_eq_true rfl) (fun x9 M1 h9 => ?_)
      obtain ⟨hg, ⟨rfl, a1, u1, c1, W1, hr1, hw1, hp1, l1, l2, l3⟩ | ⟨rfl, hf⟩⟩ := h9
      · have hq1 := hq.mv ((sdA gEq.rf).trans hg) (S46_no ho)
        have hR1 : M1.2.2 = stdR b := by rw [hg.1]; exact hR
        refine r_if_eq hG 73 dX3_readPart_57 (by decide) (fun hc57 => absurd hc57 (by decide)) (fun hc57 => ?_)
        refine r_aload_n hG dX3_readPart_60 rfl ?_
        refine r_bipush hG (-16) dX3_readPart_61 (by decide) ?_
        refine r_cVI1 hG mk_X3_67 dX3_readPart_63 rfl (by decide) (ct_X3_take hR1 hq1 tw hp1.1 l2 _) (by omega) ⟨Nat.le_refl _, Nat.le_refl _⟩ (Nat.le_of_ble_eq_true rfl) (fun x9 M2 h9 => ?_)
        rcases h9 with ⟨rfl, hc63, rfl⟩ | ⟨rfl, hc63, rfl⟩
        · skip
          refine r_if_eq hG 73 dX3_readPart_66 (by decide) (fun hc66 => absurd hc66 (by decide)) (fun hc66 => ?_)
          refine r_iconst hG (1) dX3_readPart_69 (by decide) ?_
          refine r_goto hG 74 dX3_readPart_70 (by decide) ?_
          refine hE _ _ _ _ _ dX3_readPart_74 rfl (Nat.le_refl _) (Nat.le_refl _) rfl ?_
          refine ⟨sdA ((sdA gEq.rf).trans hg), Or.inl ⟨rfl, a1 + 1, u1, c1, W1, (Run.st hst).trans (hr1.trans (Run.st (st7_y ((stI (tw.2.2.2.2.1 a1) 15 (by decide) (by decide)).mp hc63)))), fun k hk => (hw1 k (by omega)).trans (wset_n (by omega)), hp1.at ho, by omega, tw.nx l2 (by have := (stI (tw.2.2.2.2.1 a1) 15 (by decide) (by decide)).mp hc63; omega), by omega⟩⟩
        · skip
          refine r_if_eq hG 73 dX3_readPart_66 (by decide) (fun hc66 => ?_) (fun hc66 => absurd hc66 (by decide))
          refine r_iconst hG (0) dX3_readPart_73 (by decide) ?_
          refine hE _ _ _ _ _ dX3_readPart_74 rfl (Nat.le_refl _) (Nat.le_refl _) rfl ?_
          refine ⟨sdF ((sdA gEq.rf).trans hg), Or.inr ⟨rfl, pF.one 1 ⟨by omega, by omega⟩ ((Run.st hst).trans (hr1.trans (Run.st (st7_n (fun z => hc63 ((stI (tw.2.2.2.2.1 a1) 15 (by decide) (by decide)).mpr z)))))) l2 ho hp1 (by omega) rfl⟩⟩
      · skip
        refine r_if_eq hG 73 dX3_readPart_57 (by decide) (fun hc57 => ?_) (fun hc57 => absurd hc57 (by decide))
        refine r_iconst hG (0) dX3_readPart_73 (by decide) ?_
        refine hE _ _ _ _ _ dX3_readPart_74 rfl (Nat.le_refl _) (Nat.le_refl _) rfl ?_
        exact ⟨(sdA gEq.rf).trans hg, Or.inr ⟨rfl, hf.ru (Run.st hst)⟩⟩
    · refine r_aload_n hG dX3_readPart_17 rfl ?_
      refine r_iconst hG (1) dX3_readPart_18 (by decide) ?_
      refine r_cVI1 hG mk_X3_56 dX3_readPart_19 rfl (by decide) (ct_X3_wrong hR hq tw h3 ha _) (by omega) ⟨Nat.le_refl _, Nat.le_refl _⟩ (Nat.le_of_ble_eq_true rfl) (fun x9 M9 h9 => ?_)
      obtain ⟨e8, e9⟩ := h9
      rw [e8, e9]
      refine hE _ _ _ _ _ dX3_readPart_22 rfl (Nat.le_refl _) (Nat.le_refl _) rfl ?_
      refine ⟨sdF gEq.rf, Or.inr ⟨rfl, pF.one 1 ⟨by omega, by omega⟩ (Run.st (st0_f ?_)) ha ho hp (by omega) rfl⟩⟩
      intro z
      rcases z with z | z
      · exact hc8 ((stv_part ht).mpr z)
      · exact hc14 ((stI ht 14 (by decide) (by decide)).mpr z)

set_option maxRecDepth 100000 in
set_option maxHeartbeats 400000 in
theorem lp_X3_sum {G : gJ} {P : Int32 → gM → Prop} {M0 : gM} {b : Bool} (hR0 : M0.2.2 = stdR b) {o : Nat} (hob : o = if b then 11 else 17) {q : kS} (hq0 : tkC M0 q) (tw : tkW q) {a0 u0 d j : Nat} {W0 : wS} {c0 : cS} (hu0 : u0 ≤ a0) (hdj : d + j = 5) (h0 : (W0 d).1 = 0) (hPt : cPart j) (hG : gS (4 * j + 3) 0 0 yX3_readSum.cls cX3_readSum 5 G) (hE : gEi 140 0 0 cX3_readSum .boolean P G) :
    ∀ (r i a u : Nat) (W : wS) (c : cS) (M : gM) (x4 : Option Value), q.1 ≤ a + r → gEq (S46 o) M0 M → Run q.2.1 (0, a0, d, u0, W0, c0) (2, a, d, u, W, c) → (∀ k, k ≤ d → W k = W0 k) → psC M o a u c → a0 < a → a < q.1 → u + a0 ≤ u0 + a → i < a → (∀ r M9, pP q o d a0 u0 W0 c0 3 M0 r M9 → P r M9) → G (140, 0, 0) 8 [some (.ref 6), some (.int (nI (d + 1))), some (.int (1)), some (.int (nI i)), x4] [] M := by
  intro r
  induction r with
  | zero =>
    intro i a u W c M x4 hqr hg hrn hw hp l1 l2 l3 li hP
    omega
  | succ r ih =>
    intro i a u W c M x4 hqr hg hrn hw hp l1 l2 l3 li hP
    have ho : o = 11 ∨ o = 17 := by cases b <;> simp at hob <;> omega
    have h601 := tw.2.1
    have h3 := hp.1
    have hR : M.2.2 = stdR b := by rw [hg.1]; exact hR0
    have hq := hq0.mv hg (S46_no ho)
    have ht : tW (q.2.1 a) := tw.2.2.2.2.1 a
    refine r_iload_n hG dX3_readSum_8 rfl ?_
    refine r_sipush hG (600) dX3_readSum_9 (by decide) ?_
    refine r_icmp_ge hG 74 dX3_readSum_12 (by decide) (fun hc12 => absurd (nle_t (a := 600) (b := i) (by omega) (by omega) hc12) (by omega)) (fun hc12 => ?_)
    refine r_iload_n hG dX3_readSum_15 rfl ?_
    refine r_if_eq hG 74 dX3_readSum_16 (by decide) (fun hc16 => absurd hc16 (by decide)) (fun hc16 => ?_)
    refine r_aload_n hG dX3_readSum_19 rfl ?_
    refine r_cVI0 hG mk_X3_41 dX3_readSum_20 rfl (by decide) (ct_X3_token hR hq tw h3 (by omega)) (by omega) ⟨Nat.le_refl _, Nat.le_refl _⟩ (Nat.le_of_ble_eq_true rfl) (fun x9 M9 h9 => ?_)
    obtain ⟨e8, e9⟩ := h9
    rw [e8, e9]
    refine r_bipush hG (-7) dX3_readSum_23 (by decide) ?_
    refine r_icmp_eq hG 37 dX3_readSum_25 (by decide) (fun hc25 => ?_) (fun hc25 => ?_)
    · have hy : (q.2.1 a).1 = 7 ∨ (q.2.1 a).1 = 8 := Or.inl ((stI ht 6 (by decide) (by decide)).mp hc25)
      have hnx := tw.nx l2 (by omega)
      have hst := hrn.trans (Run.st (st2_y hy))
      refine r_aload_n hG dX3_readSum_37 rfl ?_
      refine r_cVI0 hG mk_X3_41 dX3_readSum_38 rfl (by decide) (ct_X3_token hR hq tw h3 (by omega)) (by omega) ⟨Nat.le_refl _, Nat.le_refl _⟩ (Nat.le_of_ble_eq_true rfl) (fun x9 M9 h9 => ?_)
      obtain ⟨e8, e9⟩ := h9
      rw [e8, e9]
      refine r_istore hG dX3_readSum_41 (by decide) ?_
      refine r_loc [some (.ref 6), some (.int (nI (d + 1))), some (.int (1)), some (.int (nI i)), some (.int (stv (q.2.1 a)))] rfl ?_
      refine r_aload_n hG dX3_readSum_43 rfl ?_
      refine r_dup hG dX3_readSum_44 rfl ?_
      refine r_getIv hG 3 (nI a) fk_X3_34 dX3_readSum_45 rfl (by decide) rfl h3 ?_
      refine r_iconst hG (1) dX3_readSum_48 (by decide) ?_
      refine r_iadd hG dX3_readSum_49 ?_
      refine r_putI hG 3 fp_X3_34 dX3_readSum_50 rfl (by decide) rfl rfl rfl ?_
      refine r_aload_n hG dX3_readSum_53 rfl ?_
      refine r_iload_n hG dX3_readSum_54 rfl ?_
      refine r_cVI1 hG mk_X3_83 dX3_readSum_55 rfl (by decide) (hPt _ b o q (a + 1) u d (wset W d ((q.2.1 a).1, (W d).2)) c (by exact hR) hob (hq.mv (sdA gEq.rf) (S46_no ho)) tw (hp.at ho) hnx (by omega) hdj) (by omega) ⟨Nat.le_refl _, Nat.le_refl _⟩ (Nat.le_of_ble_eq_true rfl) (fun x9 M1 h9 => ?_)
      obtain ⟨hg1, ⟨rfl, a1, u1, c1, W1, hr1, hw1, hp1, n1, n2, n3⟩ | ⟨rfl, hf⟩⟩ := h9
      · have hR1 : M1.2.2 = stdR b := by rw [hg1.1]; exact hR
        refine r_istore_n hG dX3_readSum_58 (by decide) ?_
        refine r_loc [some (.ref 6), some (.int (nI (d + 1))), some (.int (1)), some (.int (nI i)), some (.int (stv (q.2.1 a)))] rfl ?_
        refine r_aload_n hG dX3_readSum_59 rfl ?_
        refine r_getR hG 2 o fk_X3_25 dX3_readSum_60 rfl (by decide) rfl (sr hR1 (by rw [hob]; rfl)) ?_
        refine r_iload hG dX3_readSum_63 rfl ?_
        refine r_cVV1 hG mk_X3_76 dX3_readSum_65 (gkO ho) (show o < 140 by omega) (ct_X1_addStep (by exact hR1) ho hp1.2.2.1 (by omega) _) (by omega) ⟨Nat.le_refl _, Nat.le_refl _⟩ (Nat.le_of_ble_eq_true rfl) (fun M2 h9 => ?_)
        rw [h9]
        refine r_iinc hG (1) dX3_readSum_68 (by decide) rfl ?_
        refine r_loc [some (.ref 6), some (.int (nI (d + 1))), some (.int (1)), some (.int ((nI i) + (1))), some (.int (stv (q.2.1 a)))] rfl ?_
        refine r_goto hG 8 dX3_readSum_71 (by decide) ?_
        rw [nI_1]
        refine ih (i + 1) a1 (u1 + 1) (wset W1 d (0, (W1 d).2)) (cset c1 u1 ((W1 d).1, 0)) _ _ (by omega) (sdP ((sdA hg).trans hg1)) (hst.trans (hr1.trans (Run.st (st1_f ?_)))) (fun k hk => ?_) (hp1.push ho ?_) (by omega) n2 (by omega) (by omega) hP
        · rw [hw1 d (Nat.le_refl d), wset_s]; show (q.2.1 a).1 ≠ 0; omega
        · by_cases e : k = d
          · rw [e, wset_s, hw1 d (Nat.le_refl d), wset_s, ← hw d (Nat.le_refl d)]
            exact Prod.ext ((congrArg Prod.fst (hw d (Nat.le_refl d))).trans h0).symm rfl
          · rw [wset_n e, hw1 k hk, wset_n e]; exact hw k hk
        · rw [hw1 d (Nat.le_refl d), wset_s]; exact stv_sn (by omega)
      · have hR1 : M1.2.2 = stdR b := by rw [hg1.1]; exact hR
        obtain ⟨u9, hu9, hu9e⟩ : ∃ u', u' ≤ 600 ∧ M1.1 o 6 = nI u' := by obtain ⟨_, _, _, _, _, _, _, _, _, _, _, h⟩ := hf; exact h
        refine r_istore_n hG dX3_readSum_58 (by decide) ?_
        refine r_loc [some (.ref 6), some (.int (nI (d + 1))), some (.int (0)), some (.int (nI i)), some (.int (stv (q.2.1 a)))] rfl ?_
        refine r_aload_n hG dX3_readSum_59 rfl ?_
        refine r_getR hG 2 o fk_X3_25 dX3_readSum_60 rfl (by decide) rfl (sr hR1 (by rw [hob]; rfl)) ?_
        refine r_iload hG dX3_readSum_63 rfl ?_
        refine r_cVV1 hG mk_X3_76 dX3_readSum_65 (gkO ho) (show o < 140 by omega) (ct_X1_addStepG (by exact hR1) ho hu9e hu9 _) (by omega) ⟨Nat.le_refl _, Nat.le_refl _⟩ (Nat.le_of_ble_eq_true rfl) (fun M2 h9 => ?_)
        obtain ⟨hg2, e2, hu2⟩ := h9
        refine r_iinc hG (1) dX3_readSum_68 (by decide) rfl ?_
        refine r_loc [some (.ref 6), some (.int (nI (d + 1))), some (.int (0)), some (.int ((nI i) + (1))), some (.int (stv (q.2.1 a)))] rfl ?_
        refine r_goto hG 8 dX3_readSum_71 (by decide) ?_
        refine r_iload_n hG dX3_readSum_8 rfl ?_
        refine r_sipush hG (600) dX3_readSum_9 (by decide) ?_
        refine r_icmp_ge hG 74 dX3_readSum_12 (by decide) (fun hc12 => ?_) (fun hc12 => ?_)
        · refine r_iload_n hG dX3_readSum_74 rfl ?_
          refine hE _ _ _ _ _ dX3_readSum_75 rfl (Nat.le_refl _) (Nat.le_refl _) rfl ?_
          exact hP _ _ ⟨((sdA hg).trans hg1).trans hg2, Or.inr ⟨rfl, (hf.mv ho e2 hu2).ru hst⟩⟩
        · refine r_iload_n hG dX3_readSum_15 rfl ?_
          refine r_if_eq hG 74 dX3_readSum_16 (by decide) (fun hc16 => ?_) (fun hc16 => absurd hc16 (by decide))
          refine r_iload_n hG dX3_readSum_74 rfl ?_
          refine hE _ _ _ _ _ dX3_readSum_75 rfl (Nat.le_refl _) (Nat.le_refl _) rfl ?_
          exact hP _ _ ⟨((sdA hg).trans hg1).trans hg2, Or.inr ⟨rfl, (hf.mv ho e2 hu2).ru hst⟩⟩
    · refine r_aload_n hG dX3_readSum_28 rfl ?_
      refine r_cVI0 hG mk_X3_41 dX3_readSum_29 rfl (by decide) (ct_X3_token hR hq tw h3 (by omega)) (by omega) ⟨Nat.le_refl _, Nat.le_refl _⟩ (Nat.le_of_ble_eq_true rfl) (fun x9 M9 h9 => ?_)
      obtain ⟨e8, e9⟩ := h9
      rw [e8, e9]
      refine r_bipush hG (-8) dX3_readSum_32 (by decide) ?_
      refine r_icmp_ne hG 74 dX3_readSum_34 (by decide) (fun hc34 => ?_) (fun hc34 => ?_)
      · refine r_iload_n hG dX3_readSum_74 rfl ?_
        refine hE _ _ _ _ _ dX3_readSum_75 rfl (Nat.le_refl _) (Nat.le_refl _) rfl ?_
        exact hP _ _ ⟨hg, Or.inl ⟨rfl, a, u, c, W, hrn.trans (Run.st (st2_n (fun z => z.elim (fun z => hc25 ((stI ht 6 (by decide) (by decide)).mpr z)) (fun z => hc34 ((stI ht 7 (by decide) (by decide)).mpr z))))), hw, hp, l1, l2, l3⟩⟩
      · have hy : (q.2.1 a).1 = 7 ∨ (q.2.1 a).1 = 8 := Or.inr ((stI ht 7 (by decide) (by decide)).mp hc34)
        have hnx := tw.nx l2 (by omega)
        have hst := hrn.trans (Run.st (st2_y hy))
        refine r_aload_n hG dX3_readSum_37 rfl ?_
        refine r_cVI0 hG mk_X3_41 dX3_readSum_38 rfl (by decide) (ct_X3_token hR hq tw h3 (by omega)) (by omega) ⟨Nat.le_refl _, Nat.le_refl _⟩ (Nat.le_of_ble_eq_true rfl) (fun x9 M9 h9 => ?_)
        obtain ⟨e8, e9⟩ := h9
        rw [e8, e9]
        refine r_istore hG dX3_readSum_41 (by decide) ?_
        refine r_loc [some (.ref 6), some (.int (nI (d + 1))), some (.int (1)), some (.int (nI i)), some (.int (stv (q.2.1 a)))] rfl ?_
        refine r_aload_n hG dX3_readSum_43 rfl ?_
        refine r_dup hG dX3_readSum_44 rfl ?_
        refine r_getIv hG 3 (nI a) fk_X3_34 dX3_readSum_45 rfl (by decide) rfl h3 ?_
        refine r_iconst hG (1) dX3_readSum_48 (by decide) ?_
        refine r_iadd hG dX3_readSum_49 ?_
        refine r_putI hG 3 fp_X3_34 dX3_readSum_50 rfl (by decide) rfl rfl rfl ?_
        refine r_aload_n hG dX3_readSum_53 rfl ?_
        refine r_iload_n hG dX3_readSum_54 rfl ?_
        refine r_cVI1 hG mk_X3_83 dX3_readSum_55 rfl (by decide) (hPt _ b o q (a + 1) u d (wset W d ((q.2.1 a).1, (W d).2)) c (by exact hR) hob (hq.mv (sdA gEq.rf) (S46_no ho)) tw (hp.at ho) hnx (by omega) hdj) (by omega) ⟨Nat.le_refl _, Nat.le_refl _⟩ (Nat.le_of_ble_eq_true rfl) (fun x9 M1 h9 => ?_)
        obtain ⟨hg1, ⟨rfl, a1, u1, c1, W1, hr1, hw1, hp1, n1, n2, n3⟩ | ⟨rfl, hf⟩⟩ := h9
        · have hR1 : M1.2.2 = stdR b := by rw [hg1.1]; exact hR
          refine r_istore_n hG dX3_readSum_58 (by decide) ?_
          refine r_loc [some (.ref 6), some (.int (nI (d + 1))), some (.int (1)), some (.int (nI i)), some (.int (stv (q.2.1 a)))] rfl ?_
          refine r_aload_n hG dX3_readSum_59 rfl ?_
          refine r_getR hG 2 o fk_X3_25 dX3_readSum_60 rfl (by decide) rfl (sr hR1 (by rw [hob]; rfl)) ?_
          refine r_iload hG dX3_readSum_63 rfl ?_
          refine r_cVV1 hG mk_X3_76 dX3_readSum_65 (gkO ho) (show o < 140 by omega) (ct_X1_addStep (by exact hR1) ho hp1.2.2.1 (by omega) _) (by omega) ⟨Nat.le_refl _, Nat.le_refl _⟩ (Nat.le_of_ble_eq_true rfl) (fun M2 h9 => ?_)
          rw [h9]
          refine r_iinc hG (1) dX3_readSum_68 (by decide) rfl ?_
          refine r_loc [some (.ref 6), some (.int (nI (d + 1))), some (.int (1)), some (.int ((nI i) + (1))), some (.int (stv (q.2.1 a)))] rfl ?_
          refine r_goto hG 8 dX3_readSum_71 (by decide) ?_
          rw [nI_1]
          refine ih (i + 1) a1 (u1 + 1) (wset W1 d (0, (W1 d).2)) (cset c1 u1 ((W1 d).1, 0)) _ _ (by omega) (sdP ((sdA hg).trans hg1)) (hst.trans (hr1.trans (Run.st (st1_f ?_)))) (fun k hk => ?_) (hp1.push ho ?_) (by omega) n2 (by omega) (by omega) hP
          · rw [hw1 d (Nat.le_refl d), wset_s]; show (q.2.1 a).1 ≠ 0; omega
          · by_cases e : k = d
            · rw [e, wset_s, hw1 d (Nat.le_refl d), wset_s, ← hw d (Nat.le_refl d)]
              exact Prod.ext ((congrArg Prod.fst (hw d (Nat.le_refl d))).trans h0).symm rfl
            · rw [wset_n e, hw1 k hk, wset_n e]; exact hw k hk
          · rw [hw1 d (Nat.le_refl d), wset_s]; exact stv_sn (by omega)
        · have hR1 : M1.2.2 = stdR b := by rw [hg1.1]; exact hR
          obtain ⟨u9, hu9, hu9e⟩ : ∃ u', u' ≤ 600 ∧ M1.1 o 6 = nI u' := by obtain ⟨_, _, _, _, _, _, _, _, _, _, _, h⟩ := hf; exact h
          refine r_istore_n hG dX3_readSum_58 (by decide) ?_
          refine r_loc [some (.ref 6), some (.int (nI (d + 1))), some (.int (0)), some (.int (nI i)), some (.int (stv (q.2.1 a)))] rfl ?_
          refine r_aload_n hG dX3_readSum_59 rfl ?_
          refine r_getR hG 2 o fk_X3_25 dX3_readSum_60 rfl (by decide) rfl (sr hR1 (by rw [hob]; rfl)) ?_
          refine r_iload hG dX3_readSum_63 rfl ?_
          refine r_cVV1 hG mk_X3_76 dX3_readSum_65 (gkO ho) (show o < 140 by omega) (ct_X1_addStepG (by exact hR1) ho hu9e hu9 _) (by omega) ⟨Nat.le_refl _, Nat.le_refl _⟩ (Nat.le_of_ble_eq_true rfl) (fun M2 h9 => ?_)
          obtain ⟨hg2, e2, hu2⟩ := h9
          refine r_iinc hG (1) dX3_readSum_68 (by decide) rfl ?_
          refine r_loc [some (.ref 6), some (.int (nI (d + 1))), some (.int (0)), some (.int ((nI i) + (1))), some (.int (stv (q.2.1 a)))] rfl ?_
          refine r_goto hG 8 dX3_readSum_71 (by decide) ?_
          refine r_iload_n hG dX3_readSum_8 rfl ?_
          refine r_sipush hG (600) dX3_readSum_9 (by decide) ?_
          refine r_icmp_ge hG 74 dX3_readSum_12 (by decide) (fun hc12 => ?_) (fun hc12 => ?_)
          · refine r_iload_n hG dX3_readSum_74 rfl ?_
            refine hE _ _ _ _ _ dX3_readSum_75 rfl (Nat.le_refl _) (Nat.le_refl _) rfl ?_
            exact hP _ _ ⟨((sdA hg).trans hg1).trans hg2, Or.inr ⟨rfl, (hf.mv ho e2 hu2).ru hst⟩⟩
          · refine r_iload_n hG dX3_readSum_15 rfl ?_
            refine r_if_eq hG 74 dX3_readSum_16 (by decide) (fun hc16 => ?_) (fun hc16 => absurd hc16 (by decide))
            refine r_iload_n hG dX3_readSum_74 rfl ?_
            refine hE _ _ _ _ _ dX3_readSum_75 rfl (Nat.le_refl _) (Nat.le_refl _) rfl ?_
            exact hP _ _ ⟨((sdA hg).trans hg1).trans hg2, Or.inr ⟨rfl, (hf.mv ho e2 hu2).ru hst⟩⟩

set_option maxRecDepth 100000 in
set_option maxHeartbeats 400000 in
theorem cSum_of {j : Nat} (hPt : cPart j) : cSum j := by
  intro M b o q a u d W c hR hob hq tw hp ha hu hdj h0
  have ho : o = 11 ∨ o = 17 := by cases b <;> simp at hob <;> omega
  have h601 := tw.2.1
  have h3 := hp.1
  refine gC_i rfl (Nat.le_of_ble_eq_true rfl) (fun G hG hE => ?_)
  change G (140, 0, 0) 0 [some (.ref 6), some (.int (nI (d + 1))), none, none, none] [] M
  refine r_aload_n hG dX3_readSum_0 rfl ?_
  refine r_iload_n hG dX3_readSum_1 rfl ?_
  refine r_cVI1 hG mk_X3_83 dX3_readSum_2 rfl (by decide) (hPt M b o q a u d W c hR hob hq tw hp ha hu hdj) (by omega) ⟨Nat.le_refl _, Nat.le_refl _⟩ (Nat.le_of_ble_eq_true rfl) (fun x9 M1 h9 => ?_)
  obtain ⟨hg1, ⟨rfl, a1, u1, c1, W1, hr1, hw1, hp1, n1, n2, n3⟩ | ⟨rfl, hf⟩⟩ := h9
  · skip
    refine r_istore_n hG dX3_readSum_5 (by decide) ?_
    refine r_loc [some (.ref 6), some (.int (nI (d + 1))), some (.int (1)), none, none] rfl ?_
    refine r_iconst hG (0) dX3_readSum_6 (by decide) ?_
    refine r_istore_n hG dX3_readSum_7 (by decide) ?_
    refine r_loc [some (.ref 6), some (.int (nI (d + 1))), some (.int (1)), some (.int (0)), none] rfl ?_
    exact lp_X3_sum hR hob hq tw hu hdj h0 hPt hG hE q.1 0 a1 u1 W1 c1 _ _ (by omega) hg1 (hr1.trans (Run.st (st1_0 (by rw [hw1 d (Nat.le_refl d)]; exact h0)))) hw1 hp1 n1 n2 n3 (by omega) (fun _ _ h => h)
  · skip
    refine r_istore_n hG dX3_readSum_5 (by decide) ?_
    refine r_loc [some (.ref 6), some (.int (nI (d + 1))), some (.int (0)), none, none] rfl ?_
    refine r_iconst hG (0) dX3_readSum_6 (by decide) ?_
    refine r_istore_n hG dX3_readSum_7 (by decide) ?_
    refine r_loc [some (.ref 6), some (.int (nI (d + 1))), some (.int (0)), some (.int (0)), none] rfl ?_
    refine r_iload_n hG dX3_readSum_8 rfl ?_
    refine r_sipush hG (600) dX3_readSum_9 (by decide) ?_
    refine r_icmp_ge hG 74 dX3_readSum_12 (by decide) (fun hc12 => absurd hc12 (by decide)) (fun hc12 => ?_)
    refine r_iload_n hG dX3_readSum_15 rfl ?_
    refine r_if_eq hG 74 dX3_readSum_16 (by decide) (fun hc16 => ?_) (fun hc16 => absurd hc16 (by decide))
    refine r_iload_n hG dX3_readSum_74 rfl ?_
    refine hE _ _ _ _ _ dX3_readSum_75 rfl (Nat.le_refl _) (Nat.le_refl _) rfl ?_
    exact ⟨hg1, Or.inr ⟨rfl, hf⟩⟩

set_option maxRecDepth 100000 in
set_option maxHeartbeats 400000 in
theorem cTest_of {j : Nat} (hS : cSum j) : cTest j := by
  intro M b o q a u d W c hR hob hq tw hp ha hu hdj h0 h00
  have ho : o = 11 ∨ o = 17 := by cases b <;> simp at hob <;> omega
  have h601 := tw.2.1
  have h3 := hp.1
  refine gC_i rfl (Nat.le_of_ble_eq_true rfl) (fun G hG hE => ?_)
  change G (140, 0, 0) 0 [some (.ref 6), some (.int (nI (d + 1))), none, none] [] M
  refine r_aload_n hG dX3_readTest_0 rfl ?_
  refine r_iload_n hG dX3_readTest_1 rfl ?_
  refine r_cVI1 hG mk_X3_80 dX3_readTest_2 rfl (by decide) (hS M b o q a u d W c hR hob hq tw hp ha hu hdj h0) (by omega) ⟨Nat.le_refl _, Nat.le_refl _⟩ (Nat.le_of_ble_eq_true rfl) (fun x9 M1 h9 => ?_)
  obtain ⟨hg1, ⟨rfl, a1, u1, c1, W1, hr1, hw1, hp1, n1, n2, n3⟩ | ⟨rfl, hf⟩⟩ := h9
  · have hR1 : M1.2.2 = stdR b := by rw [hg1.1]; exact hR
    have hq1 := hq.mv hg1 (S46_no ho)
    have ht1 : tW (q.2.1 a1) := tw.2.2.2.2.1 a1
    refine r_if_ne hG 10 dX3_readTest_5 (by decide) (fun hc5 => ?_) (fun hc5 => absurd hc5 (by decide))
    refine r_aload_n hG dX3_readTest_10 rfl ?_
    refine r_cVI0 hG mk_X3_41 dX3_readTest_11 rfl (by decide) (ct_X3_token hR1 hq1 tw hp1.1 (by omega)) (by omega) ⟨Nat.le_refl _, Nat.le_refl _⟩ (Nat.le_of_ble_eq_true rfl) (fun x9 M9 h9 => ?_)
    obtain ⟨e8, e9⟩ := h9
    rw [e8, e9]
    refine r_istore_n hG dX3_readTest_14 (by decide) ?_
    refine r_loc [some (.ref 6), some (.int (nI (d + 1))), some (.int (stv (q.2.1 a1))), none] rfl ?_
    refine r_iload_n hG dX3_readTest_15 rfl ?_
    refine r_bipush hG (-9) dX3_readTest_16 (by decide) ?_
    refine r_icmp_eq hG 29 dX3_readTest_18 (by decide) (fun hc18 => ?_) (fun hc18 => ?_)
    · have hy : (q.2.1 a1).1 = 9 ∨ (q.2.1 a1).1 = 10 := Or.inl ((stI ht1 8 (by decide) (by decide)).mp hc18)
      have hnx := tw.nx n2 (by omega)
      have hw3 := hw1 d (Nat.le_refl d)
      have hst := (hr1.trans (Run.st (st3_0 (by rw [hw3]; exact h00)))).trans (Run.st (st4_y hy))
      refine r_aload_n hG dX3_readTest_29 rfl ?_
      refine r_dup hG dX3_readTest_30 rfl ?_
      refine r_getIv hG 3 (nI a1) fk_X3_34 dX3_readTest_31 rfl (by decide) rfl hp1.1 ?_
      refine r_iconst hG (1) dX3_readTest_34 (by decide) ?_
      refine r_iadd hG dX3_readTest_35 ?_
      refine r_putI hG 3 fp_X3_34 dX3_readTest_36 rfl (by decide) rfl rfl rfl ?_
      refine r_aload_n hG dX3_readTest_39 rfl ?_
      refine r_iload_n hG dX3_readTest_40 rfl ?_
      refine r_cVI1 hG mk_X3_80 dX3_readTest_41 rfl (by decide) (hS _ b o q (a1 + 1) u1 d (wset W1 d ((W1 d).1, (q.2.1 a1).1, (W1 d).2.2)) c1 (by exact hR1) hob (hq1.mv (sdA gEq.rf) (S46_no ho)) tw (hp1.at ho) hnx (by omega) hdj (by rw [wset_s, hw3]; exact h0)) (by omega) ⟨Nat.le_refl _, Nat.le_refl _⟩ (Nat.le_of_ble_eq_true rfl) (fun x9 M3 h9 => ?_)
      obtain ⟨hg3, ⟨rfl, a3, u3, c3, W3, hr3, hw3b, hp3, m1, m2, m3⟩ | ⟨rfl, hf⟩⟩ := h9
      · have hR3 : M3.2.2 = stdR b := by rw [hg3.1]; exact hR1
        refine r_istore_n hG dX3_readTest_44 (by decide) ?_
        refine r_loc [some (.ref 6), some (.int (nI (d + 1))), some (.int (stv (q.2.1 a1))), some (.int (1))] rfl ?_
        refine r_aload_n hG dX3_readTest_45 rfl ?_
        refine r_getR hG 2 o fk_X3_25 dX3_readTest_46 rfl (by decide) rfl (sr hR3 (by rw [hob]; rfl)) ?_
        refine r_iload_n hG dX3_readTest_49 rfl ?_
        refine r_cVV1 hG mk_X3_76 dX3_readTest_50 (gkO ho) (show o < 140 by omega) (ct_X1_addStep (by exact hR3) ho hp3.2.2.1 (by omega) _) (by omega) ⟨Nat.le_refl _, Nat.le_refl _⟩ (Nat.le_of_ble_eq_true rfl) (fun M4 h9 => ?_)
        rw [h9]
        refine r_iload_n hG dX3_readTest_53 rfl ?_
        refine hE _ _ _ _ _ dX3_readTest_54 rfl (Nat.le_refl _) (Nat.le_refl _) rfl ?_
        have e3 : W3 d = ((W1 d).1, (q.2.1 a1).1, (W1 d).2.2) := by rw [hw3b d (Nat.le_refl d), wset_s]
        refine ⟨sdP ((sdA hg1).trans hg3), Or.inl ⟨rfl, a3, u3 + 1, cset c3 u3 ((W3 d).2.1, 0), wset W3 d ((W3 d).1, 0, (W3 d).2.2), hst.trans (hr3.trans (Run.st (st3_f ?_))), fun k hk => ?_, hp3.push ho ?_, by omega, m2, by omega⟩⟩
        · rw [e3]; show (q.2.1 a1).1 ≠ 0; omega
        · by_cases e : k = d
          · rw [e, wset_s, e3, hw3]
            exact Prod.ext rfl (Prod.ext h00.symm rfl)
          · rw [wset_n e, hw3b k hk, wset_n e]; exact hw1 k hk
        · rw [e3]; exact stv_sn (by omega)
      · have hR3 : M3.2.2 = stdR b := by rw [hg3.1]; exact hR1
        obtain ⟨u9, hu9, hu9e⟩ : ∃ u', u' ≤ 600 ∧ M3.1 o 6 = nI u' := by obtain ⟨_, _, _, _, _, _, _, _, _, _, _, h⟩ := hf; exact h
        refine r_istore_n hG dX3_readTest_44 (by decide) ?_
        refine r_loc [some (.ref 6), some (.int (nI (d + 1))), some (.int (stv (q.2.1 a1))), some (.int (0))] rfl ?_
        refine r_aload_n hG dX3_readTest_45 rfl ?_
        refine r_getR hG 2 o fk_X3_25 dX3_readTest_46 rfl (by decide) rfl (sr hR3 (by rw [hob]; rfl)) ?_
        refine r_iload_n hG dX3_readTest_49 rfl ?_
        refine r_cVV1 hG mk_X3_76 dX3_readTest_50 (gkO ho) (show o < 140 by omega) (ct_X1_addStepG (by exact hR3) ho hu9e hu9 _) (by omega) ⟨Nat.le_refl _, Nat.le_refl _⟩ (Nat.le_of_ble_eq_true rfl) (fun M4 h9 => ?_)
        obtain ⟨hg4, e4, hu4⟩ := h9
        refine r_iload_n hG dX3_readTest_53 rfl ?_
        refine hE _ _ _ _ _ dX3_readTest_54 rfl (Nat.le_refl _) (Nat.le_refl _) rfl ?_
        exact ⟨((sdA hg1).trans hg3).trans hg4, Or.inr ⟨rfl, (hf.mv ho e4 hu4).ru hst⟩⟩
    · refine r_iload_n hG dX3_readTest_21 rfl ?_
      refine r_bipush hG (-10) dX3_readTest_22 (by decide) ?_
      refine r_icmp_eq hG 29 dX3_readTest_24 (by decide) (fun hc24 => ?_) (fun hc24 => ?_)
      · have hy : (q.2.1 a1).1 = 9 ∨ (q.2.1 a1).1 = 10 := Or.inr ((stI ht1 9 (by decide) (by decide)).mp hc24)
        have hnx := tw.nx n2 (by omega)
        have hw3 := hw1 d (Nat.le_refl d)
        have hst := (hr1.trans (Run.st (st3_0 (by rw [hw3]; exact h00)))).trans (Run.st (st4_y hy))
        refine r_aload_n hG dX3_readTest_29 rfl ?_
        refine r_dup hG dX3_readTest_30 rfl ?_
        refine r_getIv hG 3 (nI a1) fk_X3_34 dX3_readTest_31 rfl (by decide) rfl hp1.1 ?_
        refine r_iconst hG (1) dX3_readTest_34 (by decide) ?_
        refine r_iadd hG dX3_readTest_35 ?_
        refine r_putI hG 3 fp_X3_34 dX3_readTest_36 rfl (by decide) rfl rfl rfl ?_
        refine r_aload_n hG dX3_readTest_39 rfl ?_
        refine r_iload_n hG dX3_readTest_40 rfl ?_
        refine r_cVI1 hG mk_X3_80 dX3_readTest_41 rfl (by decide) (hS _ b o q (a1 + 1) u1 d (wset W1 d ((W1 d).1, (q.2.1 a1).1, (W1 d).2.2)) c1 (by exact hR1) hob (hq1.mv (sdA gEq.rf) (S46_no ho)) tw (hp1.at ho) hnx (by omega) hdj (by rw [wset_s, hw3]; exact h0)) (by omega) ⟨Nat.le_refl _, Nat.le_refl _⟩ (Nat.le_of_ble_eq_true rfl) (fun x9 M3 h9 => ?_)
        obtain ⟨hg3, ⟨rfl, a3, u3, c3, W3, hr3, hw3b, hp3, m1, m2, m3⟩ | ⟨rfl, hf⟩⟩ := h9
        · have hR3 : M3.2.2 = stdR b := by rw [hg3.1]; exact hR1
          refine r_istore_n hG dX3_readTest_44 (by decide) ?_
          refine r_loc [some (.ref 6), some (.int (nI (d + 1))), some (.int (stv (q.2.1 a1))), some (.int (1))] rfl ?_
          refine r_aload_n hG dX3_readTest_45 rfl ?_
          refine r_getR hG 2 o fk_X3_25 dX3_readTest_46 rfl (by decide) rfl (sr hR3 (by rw [hob]; rfl)) ?_
          refine r_iload_n hG dX3_readTest_49 rfl ?_
          refine r_cVV1 hG mk_X3_76 dX3_readTest_50 (gkO ho) (show o < 140 by omega) (ct_X1_addStep (by exact hR3) ho hp3.2.2.1 (by omega) _) (by omega) ⟨Nat.le_refl _, Nat.le_refl _⟩ (Nat.le_of_ble_eq_true rfl) (fun M4 h9 => ?_)
          rw [h9]
          refine r_iload_n hG dX3_readTest_53 rfl ?_
          refine hE _ _ _ _ _ dX3_readTest_54 rfl (Nat.le_refl _) (Nat.le_refl _) rfl ?_
          have e3 : W3 d = ((W1 d).1, (q.2.1 a1).1, (W1 d).2.2) := by rw [hw3b d (Nat.le_refl d), wset_s]
          refine ⟨sdP ((sdA hg1).trans hg3), Or.inl ⟨rfl, a3, u3 + 1, cset c3 u3 ((W3 d).2.1, 0), wset W3 d ((W3 d).1, 0, (W3 d).2.2), hst.trans (hr3.trans (Run.st (st3_f ?_))), fun k hk => ?_, hp3.push ho ?_, by omega, m2, by omega⟩⟩
          · rw [e3]; show (q.2.1 a1).1 ≠ 0; omega
          · by_cases e : k = d
            · rw [e, wset_s, e3, hw3]
              exact Prod.ext rfl (Prod.ext h00.symm rfl)
            · rw [wset_n e, hw3b k hk, wset_n e]; exact hw1 k hk
          · rw [e3]; exact stv_sn (by omega)
        · have hR3 : M3.2.2 = stdR b := by rw [hg3.1]; exact hR1
          obtain ⟨u9, hu9, hu9e⟩ : ∃ u', u' ≤ 600 ∧ M3.1 o 6 = nI u' := by obtain ⟨_, _, _, _, _, _, _, _, _, _, _, h⟩ := hf; exact h
          refine r_istore_n hG dX3_readTest_44 (by decide) ?_
          refine r_loc [some (.ref 6), some (.int (nI (d + 1))), some (.int (stv (q.2.1 a1))), some (.int (0))] rfl ?_
          refine r_aload_n hG dX3_readTest_45 rfl ?_
          refine r_getR hG 2 o fk_X3_25 dX3_readTest_46 rfl (by decide) rfl (sr hR3 (by rw [hob]; rfl)) ?_
          refine r_iload_n hG dX3_readTest_49 rfl ?_
          refine r_cVV1 hG mk_X3_76 dX3_readTest_50 (gkO ho) (show o < 140 by omega) (ct_X1_addStepG (by exact hR3) ho hu9e hu9 _) (by omega) ⟨Nat.le_refl _, Nat.le_refl _⟩ (Nat.le_of_ble_eq_true rfl) (fun M4 h9 => ?_)
          obtain ⟨hg4, e4, hu4⟩ := h9
          refine r_iload_n hG dX3_readTest_53 rfl ?_
          refine hE _ _ _ _ _ dX3_readTest_54 rfl (Nat.le_refl _) (Nat.le_refl _) rfl ?_
          exact ⟨((sdA hg1).trans hg3).trans hg4, Or.inr ⟨rfl, (hf.mv ho e4 hu4).ru hst⟩⟩
      · refine r_iconst hG (1) dX3_readTest_27 (by decide) ?_
        refine hE _ _ _ _ _ dX3_readTest_28 rfl (Nat.le_refl _) (Nat.le_refl _) rfl ?_
        exact ⟨hg1, Or.inl ⟨rfl, a1, u1, c1, W1, (hr1.trans (Run.st (st3_0 (by rw [hw1 d (Nat.le_refl d)]; exact h00)))).trans (Run.st (st4_n (fun z => z.elim (fun z => hc18 ((stI ht1 8 (by decide) (by decide)).mpr z)) (fun z => hc24 ((stI ht1 9 (by decide) (by decide)).mpr z))))), hw1, hp1, n1, n2, n3⟩⟩
  · skip
    refine r_if_ne hG 10 dX3_readTest_5 (by decide) (fun hc5 => absurd hc5 (by decide)) (fun hc5 => ?_)
    refine r_iconst hG (0) dX3_readTest_8 (by decide) ?_
    refine hE _ _ _ _ _ dX3_readTest_9 rfl (Nat.le_refl _) (Nat.le_refl _) rfl ?_
    exact ⟨hg1, Or.inr ⟨rfl, hf⟩⟩

set_option maxRecDepth 100000 in
set_option maxHeartbeats 400000 in
theorem lp_X3_tests {G : gJ} {P : Int32 → gM → Prop} {M0 : gM} {b : Bool} (hR0 : M0.2.2 = stdR b) {o : Nat} (hob : o = if b then 11 else 17) {q : kS} (hq0 : tkC M0 q) (tw : tkW q) {a0 u0 d j : Nat} {W0 : wS} {c0 : cS} (hu0 : u0 ≤ a0) (hdj : d + j = 5) (h0 : (W0 d).1 = 0) (h01 : (W0 d).2.1 = 0) (h02 : (W0 d).2.2 = 0) (hTe : cTest j) (hG : gS (4 * j + 5) 0 0 yX3_readTests.cls cX3_readTests 4 G) (hE : gEi 140 0 0 cX3_readTests .boolean P G) :
    ∀ (r i a u : Nat) (W : wS) (c : cS) (M : gM), q.1 ≤ a + r → gEq (S46 o) M0 M → Run q.2.1 (0, a0, d, u0, W0, c0) (6, a, d, u, W, c) → (∀ k, k ≤ d → W k = W0 k) → psC M o a u c → a0 < a → a < q.1 → u + a0 ≤ u0 + a → i < a → (∀ r M9, pP q o d a0 u0 W0 c0 7 M0 r M9 → P r M9) → G (140, 0, 0) 8 [some (.ref 6), some (.int (nI (d + 1))), some (.int (1)), some (.int (nI i))] [] M := by
  intro r
  induction r with
  | zero =>
    intro i a u W c M hqr hg hrn hw hp l1 l2 l3 li hP
    omega
  | succ r ih =>
    intro i a u W c M hqr hg hrn hw hp l1 l2 l3 li hP
    have ho : o = 11 ∨ o = 17 := by cases b <;> simp at hob <;> omega
    have h601 := tw.2.1
    have h3 := hp.1
    have hR : M.2.2 = stdR b := by rw [hg.1]; exact hR0
    have hq := hq0.mv hg (S46_no ho)
    have ht : tW (q.2.1 a) := tw.2.2.2.2.1 a
    refine r_iload_n hG dX3_readTests_8 rfl ?_
    refine r_sipush hG (600) dX3_readTests_9 (by decide) ?_
    refine r_icmp_ge hG 59 dX3_readTests_12 (by decide) (fun hc12 => absurd (nle_t (a := 600) (b := i) (by omega) (by omega) hc12) (by omega)) (fun hc12 => ?_)
    refine r_iload_n hG dX3_readTests_15 rfl ?_
    refine r_if_eq hG 59 dX3_readTests_16 (by decide) (fun hc16 => absurd hc16 (by decide)) (fun hc16 => ?_)
    refine r_aload_n hG dX3_readTests_19 rfl ?_
    refine r_cVI0 hG mk_X3_41 dX3_readTests_20 rfl (by decide) (ct_X3_token hR hq tw h3 (by omega)) (by omega) ⟨Nat.le_refl _, Nat.le_refl _⟩ (Nat.le_of_ble_eq_true rfl) (fun x9 M9 h9 => ?_)
    obtain ⟨e8, e9⟩ := h9
    rw [e8, e9]
    refine r_bipush hG (-11) dX3_readTests_23 (by decide) ?_
    refine r_icmp_ne hG 59 dX3_readTests_25 (by decide) (fun hc25 => ?_) (fun hc25 => ?_)
    · refine r_iload_n hG dX3_readTests_59 rfl ?_
      refine hE _ _ _ _ _ dX3_readTests_60 rfl (Nat.le_refl _) (Nat.le_refl _) rfl ?_
      exact hP _ _ ⟨hg, Or.inl ⟨rfl, a, u, c, W, hrn.trans (Run.st (st6_n (fun z => hc25 ((stI ht 10 (by decide) (by decide)).mpr z)))), hw, hp, l1, l2, l3⟩⟩
    · have hy : (q.2.1 a).1 = 11 := ((stI ht 10 (by decide) (by decide)).mp hc25)
      have hnx := tw.nx l2 (by omega)
      have hst := hrn.trans (Run.st (st6_y hy))
      refine r_aload_n hG dX3_readTests_28 rfl ?_
      refine r_dup hG dX3_readTests_29 rfl ?_
      refine r_getIv hG 3 (nI a) fk_X3_34 dX3_readTests_30 rfl (by decide) rfl h3 ?_
      refine r_iconst hG (1) dX3_readTests_33 (by decide) ?_
      refine r_iadd hG dX3_readTests_34 ?_
      refine r_putI hG 3 fp_X3_34 dX3_readTests_35 rfl (by decide) rfl rfl rfl ?_
      refine r_aload_n hG dX3_readTests_38 rfl ?_
      refine r_iload_n hG dX3_readTests_39 rfl ?_
      refine r_cVI1 hG mk_X3_73 dX3_readTests_40 rfl (by decide) (hTe _ b o q (a + 1) u d (wset W d ((W d).1, (W d).2.1, 11)) c (by exact hR) hob (hq.mv (sdA gEq.rf) (S46_no ho)) tw (hp.at ho) hnx (by omega) hdj (by rw [wset_s, hw d (Nat.le_refl d)]; exact h0) (by rw [wset_s, hw d (Nat.le_refl d)]; exact h01)) (by omega) ⟨Nat.le_refl _, Nat.le_refl _⟩ (Nat.le_of_ble_eq_true rfl) (fun x9 M1 h9 => ?_)
      obtain ⟨hg1, ⟨rfl, a1, u1, c1, W1, hr1, hw1, hp1, n1, n2, n3⟩ | ⟨rfl, hf⟩⟩ := h9
      · have hR1 : M1.2.2 = stdR b := by rw [hg1.1]; exact hR
        refine r_istore_n hG dX3_readTests_43 (by decide) ?_
        refine r_loc [some (.ref 6), some (.int (nI (d + 1))), some (.int (1)), some (.int (nI i))] rfl ?_
        refine r_aload_n hG dX3_readTests_44 rfl ?_
        refine r_getR hG 2 o fk_X3_25 dX3_readTests_45 rfl (by decide) rfl (sr hR1 (by rw [hob]; rfl)) ?_
        refine r_bipush hG (-11) dX3_readTests_48 (by decide) ?_
        refine r_cVV1 hG mk_X3_76 dX3_readTests_50 (gkO ho) (show o < 140 by omega) (ct_X1_addStep (by exact hR1) ho hp1.2.2.1 (by omega) _) (by omega) ⟨Nat.le_refl _, Nat.le_refl _⟩ (Nat.le_of_ble_eq_true rfl) (fun M2 h9 => ?_)
        rw [h9]
        refine r_iinc hG (1) dX3_readTests_53 (by decide) rfl ?_
        refine r_loc [some (.ref 6), some (.int (nI (d + 1))), some (.int (1)), some (.int ((nI i) + (1)))] rfl ?_
        refine r_goto hG 8 dX3_readTests_56 (by decide) ?_
        rw [nI_1]
        have e3 : W1 d = ((W d).1, (W d).2.1, 11) := by rw [hw1 d (Nat.le_refl d), wset_s]
        refine ih (i + 1) a1 (u1 + 1) (wset W1 d ((W1 d).1, (W1 d).2.1, 0)) (cset c1 u1 ((W1 d).2.2, 0)) _ (by omega) (sdP ((sdA hg).trans hg1)) (hst.trans (hr1.trans (Run.st (st5_f ?_)))) (fun k hk => ?_) (hp1.push ho ?_) (by omega) n2 (by omega) (by omega) hP
        · rw [e3]; show 11 ≠ 0; omega
        · by_cases e : k = d
          · rw [e, wset_s, e3, hw d (Nat.le_refl d)]
            exact Prod.ext rfl (Prod.ext rfl h02.symm)
          · rw [wset_n e, hw1 k hk, wset_n e]; exact hw k hk
        · rw [e3]; show (-11 : Int32) = stv (11, 0); decide
      · have hR1 : M1.2.2 = stdR b := by rw [hg1.1]; exact hR
        obtain ⟨u9, hu9, hu9e⟩ : ∃ u', u' ≤ 600 ∧ M1.1 o 6 = nI u' := by obtain ⟨_, _, _, _, _, _, _, _, _, _, _, h⟩ := hf; exact h
        refine r_istore_n hG dX3_readTests_43 (by decide) ?_
        refine r_loc [some (.ref 6), some (.int (nI (d + 1))), some (.int (0)), some (.int (nI i))] rfl ?_
        refine r_aload_n hG dX3_readTests_44 rfl ?_
        refine r_getR hG 2 o fk_X3_25 dX3_readTests_45 rfl (by decide) rfl (sr hR1 (by rw [hob]; rfl)) ?_
        refine r_bipush hG (-11) dX3_readTests_48 (by decide) ?_
        refine r_cVV1 hG mk_X3_76 dX3_readTests_50 (gkO ho) (show o < 140 by omega) (ct_X1_addStepG (by exact hR1) ho hu9e hu9 _) (by omega) ⟨Nat.le_refl _, Nat.le_refl _⟩ (Nat.le_of_ble_eq_true rfl) (fun M2 h9 => ?_)
        obtain ⟨hg2, e2, hu2⟩ := h9
        refine r_iinc hG (1) dX3_readTests_53 (by decide) rfl ?_
        refine r_loc [some (.ref 6), some (.int (nI (d + 1))), some (.int (0)), some (.int ((nI i) + (1)))] rfl ?_
        refine r_goto hG 8 dX3_readTests_56 (by decide) ?_
        refine r_iload_n hG dX3_readTests_8 rfl ?_
        refine r_sipush hG (600) dX3_readTests_9 (by decide) ?_
        refine r_icmp_ge hG 59 dX3_readTests_12 (by decide) (fun hc12 => ?_) (fun hc12 => ?_)
        · refine r_iload_n hG dX3_readTests_59 rfl ?_
          refine hE _ _ _ _ _ dX3_readTests_60 rfl (Nat.le_refl _) (Nat.le_refl _) rfl ?_
          exact hP _ _ ⟨((sdA hg).trans hg1).trans hg2, Or.inr ⟨rfl, (hf.mv ho e2 hu2).ru hst⟩⟩
        · refine r_iload_n hG dX3_readTests_15 rfl ?_
          refine r_if_eq hG 59 dX3_readTests_16 (by decide) (fun hc16 => ?_) (fun hc16 => absurd hc16 (by decide))
          refine r_iload_n hG dX3_readTests_59 rfl ?_
          refine hE _ _ _ _ _ dX3_readTests_60 rfl (Nat.le_refl _) (Nat.le_refl _) rfl ?_
          exact hP _ _ ⟨((sdA hg).trans hg1).trans hg2, Or.inr ⟨rfl, (hf.mv ho e2 hu2).ru hst⟩⟩

set_option maxRecDepth 100000 in
set_option maxHeartbeats 400000 in
theorem cTests_of {j : Nat} (hTe : cTest j) : cTests j := by
  intro M b o q a u d W c hR hob hq tw hp ha hu hdj h0 h01 h02
  have ho : o = 11 ∨ o = 17 := by cases b <;> simp at hob <;> omega
  have h601 := tw.2.1
  have h3 := hp.1
  refine gC_i rfl (Nat.le_of_ble_eq_true rfl) (fun G hG hE => ?_)
  change G (140, 0, 0) 0 [some (.ref 6), some (.int (nI (d + 1))), none, none] [] M
  refine r_aload_n hG dX3_readTests_0 rfl ?_
  refine r_iload_n hG dX3_readTests_1 rfl ?_
  refine r_cVI1 hG mk_X3_73 dX3_readTests_2 rfl (by decide) (hTe M b o q a u d W c hR hob hq tw hp ha hu hdj h0 h01) (by omega) ⟨Nat.le_refl _, Nat.le_refl _⟩ (Nat.le_of_ble_eq_true rfl) (fun x9 M1 h9 => ?_)
  obtain ⟨hg1, ⟨rfl, a1, u1, c1, W1, hr1, hw1, hp1, n1, n2, n3⟩ | ⟨rfl, hf⟩⟩ := h9
  · skip
    refine r_istore_n hG dX3_readTests_5 (by decide) ?_
    refine r_loc [some (.ref 6), some (.int (nI (d + 1))), some (.int (1)), none] rfl ?_
    refine r_iconst hG (0) dX3_readTests_6 (by decide) ?_
    refine r_istore_n hG dX3_readTests_7 (by decide) ?_
    refine r_loc [some (.ref 6), some (.int (nI (d + 1))), some (.int (1)), some (.int (0))] rfl ?_
    exact lp_X3_tests hR hob hq tw hu hdj h0 h01 h02 hTe hG hE q.1 0 a1 u1 W1 c1 _ (by omega) hg1 (hr1.trans (Run.st (st5_0 (by rw [hw1 d (Nat.le_refl d)]; exact h02)))) hw1 hp1 n1 n2 n3 (by omega) (fun _ _ h => h)
  · skip
    refine r_istore_n hG dX3_readTests_5 (by decide) ?_
    refine r_loc [some (.ref 6), some (.int (nI (d + 1))), some (.int (0)), none] rfl ?_
    refine r_iconst hG (0) dX3_readTests_6 (by decide) ?_
    refine r_istore_n hG dX3_readTests_7 (by decide) ?_
    refine r_loc [some (.ref 6), some (.int (nI (d + 1))), some (.int (0)), some (.int (0))] rfl ?_
    refine r_iload_n hG dX3_readTests_8 rfl ?_
    refine r_sipush hG (600) dX3_readTests_9 (by decide) ?_
    refine r_icmp_ge hG 59 dX3_readTests_12 (by decide) (fun hc12 => absurd hc12 (by decide)) (fun hc12 => ?_)
    refine r_iload_n hG dX3_readTests_15 rfl ?_
    refine r_if_eq hG 59 dX3_readTests_16 (by decide) (fun hc16 => ?_) (fun hc16 => absurd hc16 (by decide))
    refine r_iload_n hG dX3_readTests_59 rfl ?_
    refine hE _ _ _ _ _ dX3_readTests_60 rfl (Nat.le_refl _) (Nat.le_refl _) rfl ?_
    exact ⟨hg1, Or.inr ⟨rfl, hf⟩⟩

theorem cTests_5 : cTests 5 := by
  have g : ∀ j, cPart j → cTests j := fun j h => cTests_of (cTest_of (cSum_of h))
  exact g 5 (cPart_s (g 4 (cPart_s (g 3 (cPart_s (g 2 (cPart_s (g 1 (cPart_s (g 0 cPart_0))))))))))

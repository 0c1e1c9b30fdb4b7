theorem tkM.mv {M M9 : gM} {q : kS} {S : Nat → Nat → Prop} (h : tkM M q) (g : gEq S M M9) (hS : ∀ k j, S k j → k ≠ 90 ∧ k ≠ 91) : tkM M9 q := fun i hi => by
  rw [g.2 90 i (fun z => (hS _ _ z).1 rfl), g.2 91 i (fun z => (hS _ _ z).2 rfl), g.1]
  exact h i hi
theorem wdM.mv {M M9 : gM} (h : wdM M) (g : M9.2 = M.2) : wdM M9 := fun w hw => by rw [g]; exact h w hw
theorem SM_no {x y : Nat} : ∀ k j, SM x y k j → k ≠ 90 ∧ k ≠ 91 := by
  intro k j h
  unfold SM at h
  omega
def gSt (q : kS) (h n st : Nat) (s0 : mS) (M0 : gM) (m a d u : Nat) (W : wS) (c : cS) (M : gM) : Prop := gEq (SM (660 * h + n + st) (660 * h + 660)) M0 M ∧ Run q.2.1 s0 (m, a, d, u, W, c) ∧ psM M h n st a d u W c ∧ a < q.1
def goP (q : kS) (h n st : Nat) (s0 : mS) (M0 : gM) (r : Int32) (M9 : gM) : Prop := gEq (SM (660 * h + n + st) (660 * h + 660)) M0 M9 ∧ ∃ m a d u W c, Run q.2.1 s0 (m, a, d, u, W, c) ∧ ((r = 1 ∧ m = 0 ∧ psM M9 h n st a d u W c ∧ a < q.1) ∨ (r = 0 ∧ m = 8 ∧ psM M9 h n st a d u W c ∧ a < q.1) ∨ (r = 0 ∧ ∃ k, m = 10 + k ∧ pfM q (n + st) M9 k a))
set_option maxRecDepth 100000 in
set_option maxHeartbeats 400000 in
theorem sg249z {G : gJ} {P : Int32 → gM → Prop} (hG : gS 2 0 0 yX9_goesOnBehind.cls cX9_goesOnBehind 1 G) (hE : gEi 140 0 0 cX9_goesOnBehind .boolean P G) {M0 : gM} {b : Bool} (hR0 : M0.2.2 = stdR b) {q : kS} (hk0 : tkM M0 q) (tw : tkW q) (wd0 : wdM M0) {h n st : Nat} (lh : h ≤ 1) (ln : n ≤ 16) {c0 : cS} {s0 : mS} (hI : mInv st c0 s0) (hU : uInv s0) (hP : ∀ r M9, goP q h n st s0 M0 r M9 → P r M9) {a u : Nat} {W : wS} {c : cS} {M : gM} (gs : gSt q h n st s0 M0 7 a 0 u W c M)  : G (140, 0, 0) 249 [some (.ref 88)] [] M := by
  obtain ⟨hg, hrn, hp, ha⟩ := gs
  have hR : M.2.2 = stdR b := by rw [hg.1]; exact hR0
  have hk : tkM M q := hk0.mv hg SM_no
  have wd : wdM M := wd0.mv hg.1
  have h601 := tw.2.1
  obtain ⟨i1, i2, -, -, i5, -, i7, i8, i9, -⟩ := mInv_run tw.2.2.2.2.1 hrn hI (by omega)
  have hu : u + (pend W 0 + wn (W 0)) ≤ a := uInv_run hrn hU (by omega)
  have hok := i5 0 (Nat.le_refl 0)
  refine r_aload_n hG dX9_goesOnBehind_249 rfl ?_
  refine r_getIv hG 19 (0) fk_X9_255 dX9_goesOnBehind_250 rfl (by decide) rfl (hp.2.2.2.2.1.trans rfl) ?_
  refine r_if_ne hG 258 dX9_goesOnBehind_253 (by decide) (fun hc253 => absurd hc253 (by decide)) (fun hc253 => ?_)
  refine r_iconst hG (0) dX9_goesOnBehind_256 (by decide) ?_
  refine hE _ _ _ _ _ dX9_goesOnBehind_257 rfl (Nat.le_refl _) (Nat.le_refl _) rfl ?_
  exact hP _ _ ⟨hg, 8, a, 0, u, W, c, hrn.trans (Run.st st7_0), Or.inr (Or.inl ⟨rfl, rfl, hp, ha⟩)⟩

set_option maxRecDepth 100000 in
set_option maxHeartbeats 400000 in
theorem sg249s {G : gJ} {P : Int32 → gM → Prop} (hG : gS 2 0 0 yX9_goesOnBehind.cls cX9_goesOnBehind 1 G) (hE : gEi 140 0 0 cX9_goesOnBehind .boolean P G) {M0 : gM} {b : Bool} (hR0 : M0.2.2 = stdR b) {q : kS} (hk0 : tkM M0 q) (tw : tkW q) (wd0 : wdM M0) {h n st : Nat} (lh : h ≤ 1) (ln : n ≤ 16) {c0 : cS} {s0 : mS} (hI : mInv st c0 s0) (hU : uInv s0) (hP : ∀ r M9, goP q h n st s0 M0 r M9 → P r M9) {a e u : Nat} {W : wS} {c : cS} {M : gM} (gs : gSt q h n st s0 M0 7 a (e + 1) u W c M) (hH : ∀ e', e + 1 = e' + 1 → ∀ a u W c M, gSt q h n st s0 M0 1 a e' u W c M → G (140, 0, 0) 0 [some (.ref 88)] [] M) : G (140, 0, 0) 249 [some (.ref 88)] [] M := by
  obtain ⟨hg, hrn, hp, ha⟩ := gs
  have hR : M.2.2 = stdR b := by rw [hg.1]; exact hR0
  have hk : tkM M q := hk0.mv hg SM_no
  have wd : wdM M := wd0.mv hg.1
  have h601 := tw.2.1
  obtain ⟨i1, i2, -, -, i5, -, i7, i8, i9, -⟩ := mInv_run tw.2.2.2.2.1 hrn hI (by omega)
  have hu : u + (pend W (e + 1) + wn (W (e + 1))) ≤ a := uInv_run hrn hU (by omega)
  have hok := i5 (e + 1) (Nat.le_refl (e + 1))
  refine r_aload_n hG dX9_goesOnBehind_249 rfl ?_
  refine r_getIv hG 19 (nI (e + 1)) fk_X9_255 dX9_goesOnBehind_250 rfl (by decide) rfl hp.2.2.2.2.1 ?_
  refine r_if_ne hG 258 dX9_goesOnBehind_253 (by decide) (fun hc253 => ?_) (fun hc253 => absurd (neq_t (a := (e + 1)) (b := 0) (by omega) (by omega) hc253) (by omega))
  refine r_aload_n hG dX9_goesOnBehind_258 rfl ?_
  refine r_bipush hG (41) dX9_goesOnBehind_259 (by decide) ?_
  refine r_cVV1 hG mk_X9_272 dX9_goesOnBehind_261 rfl (by decide) (ct_X9_takeSign hR hk tw.2.1 hp.1 ha hp.2.1 (c := 16) (by decide) rfl) (by decide) ⟨Nat.le_refl _, Nat.le_refl _⟩ (Nat.le_of_ble_eq_true rfl) (fun M9 h9 => ?_)
  rcases h9 with ⟨hw, rfl⟩ | ⟨hw, rfl⟩
  · skip
    refine r_aload_n hG dX9_goesOnBehind_264 rfl ?_
    refine r_dup hG dX9_goesOnBehind_265 rfl ?_
    refine r_getIv hG 19 (nI (e + 1)) fk_X9_255 dX9_goesOnBehind_266 rfl (by decide) rfl ((gwI_n (by omega)).trans hp.2.2.2.2.1) ?_
    refine r_iconst hG (1) dX9_goesOnBehind_269 (by decide) ?_
    refine r_isub hG dX9_goesOnBehind_270 ?_
    refine r_top (nI e) (nI_pred e) ?_
    refine r_putI hG 19 fp_X9_255 dX9_goesOnBehind_271 rfl (by decide) rfl rfl rfl ?_
    refine r_goto hG 0 dX9_goesOnBehind_274 (by decide) ?_
    exact hH e rfl (a + 1) u W c _ ⟨((hg.put (by unfold SM; omega)).put (by unfold SM; omega)), hrn.trans (Run.st (st7_y hw)), hp.at.down rfl, tw.nx ha (by omega)⟩
  · show G _ _ _ _ _
    refine r_aload_n hG dX9_goesOnBehind_264 rfl ?_
    refine r_dup hG dX9_goesOnBehind_265 rfl ?_
    refine r_getIv hG 19 (nI (e + 1)) fk_X9_255 dX9_goesOnBehind_266 rfl (by decide) rfl ((gwI_n (by omega)).trans hp.2.2.2.2.1) ?_
    refine r_iconst hG (1) dX9_goesOnBehind_269 (by decide) ?_
    refine r_isub hG dX9_goesOnBehind_270 ?_
    refine r_top (nI e) (nI_pred e) ?_
    refine r_putI hG 19 fp_X9_255 dX9_goesOnBehind_271 rfl (by decide) rfl rfl rfl ?_
    refine r_goto hG 0 dX9_goesOnBehind_274 (by decide) ?_
    refine r_aload_n hG dX9_goesOnBehind_0 rfl ?_
    refine r_getIv hG 8 (1 + 16 * nI (q.2.2 a)) fk_X9_219 dX9_goesOnBehind_1 rfl (by decide) rfl ((gwI_n (by omega)).trans gwI_s) ?_
    refine r_if_ne hG 277 dX9_goesOnBehind_4 (by decide) (fun hc4 => ?_) (fun hc4 => absurd hc4 (flt_nz (k := 1) rfl ⟨by omega, by omega⟩ (tw.2.2.2.2.2 a ha)))
    refine r_iconst hG (0) dX9_goesOnBehind_277 (by decide) ?_
    refine hE _ _ _ _ _ dX9_goesOnBehind_278 rfl (Nat.le_refl _) (Nat.le_refl _) rfl ?_
    exact hP _ _ ⟨((hg.put (by unfold SM; omega)).put (by unfold SM; omega)), 11, a, e + 1, u, W, c, hrn.trans (Run.st (st7_n hw)), Or.inr (Or.inr ⟨rfl, 1, rfl, by omega, by omega, ha, (gwI_n (by omega)).trans gwI_s, ⟨n + u, ⟨by omega, by omega⟩, by rw [gwI_n (by omega), gwI_n (by omega)]; exact hp.2.2.2.1⟩, a, by omega, by rw [gwI_n (by omega), gwI_n (by omega)]; exact hp.1⟩)⟩

set_option maxRecDepth 100000 in
set_option maxHeartbeats 400000 in
theorem sg218 {G : gJ} {P : Int32 → gM → Prop} (hG : gS 2 0 0 yX9_goesOnBehind.cls cX9_goesOnBehind 1 G) (hE : gEi 140 0 0 cX9_goesOnBehind .boolean P G) {M0 : gM} {b : Bool} (hR0 : M0.2.2 = stdR b) {q : kS} (hk0 : tkM M0 q) (tw : tkW q) (wd0 : wdM M0) {h n st : Nat} (lh : h ≤ 1) (ln : n ≤ 16) {c0 : cS} {s0 : mS} (hI : mInv st c0 s0) (hU : uInv s0) (hP : ∀ r M9, goP q h n st s0 M0 r M9 → P r M9) {a d u : Nat} {W : wS} {c : cS} {M : gM} (gs : gSt q h n st s0 M0 6 a d u W c M) (hH : ∀ e, d = e + 1 → ∀ a u W c M, gSt q h n st s0 M0 1 a e u W c M → G (140, 0, 0) 0 [some (.ref 88)] [] M) : G (140, 0, 0) 218 [some (.ref 88)] [] M := by
  obtain ⟨hg, hrn, hp, ha⟩ := gs
  have hR : M.2.2 = stdR b := by rw [hg.1]; exact hR0
  have hk : tkM M q := hk0.mv hg SM_no
  have wd : wdM M := wd0.mv hg.1
  have h601 := tw.2.1
  obtain ⟨i1, i2, -, -, i5, -, i7, i8, i9, -⟩ := mInv_run tw.2.2.2.2.1 hrn hI (by omega)
  have hu : u + (pend W d + wn (W d)) ≤ a := uInv_run hrn hU (by omega)
  have hok := i5 d (Nat.le_refl d)
  refine r_aload_n hG dX9_goesOnBehind_218 rfl ?_
  refine r_iconst hG (3) dX9_goesOnBehind_219 (by decide) ?_
  refine r_cVI1 hG mk_X9_229 dX9_goesOnBehind_220 rfl (by decide) (ct_X9_isWord hR hk tw.2.1 hp.1 ha hp.2.1 wd (w := 3) (by decide) rfl) (by decide) ⟨Nat.le_refl _, Nat.le_refl _⟩ (Nat.le_of_ble_eq_true rfl) (fun x9 M9 h9 => ?_)
  obtain ⟨h8, e9⟩ := h9; rw [e9]; rcases h8 with ⟨e8, hw220⟩ | ⟨e8, hw220⟩
  · rw [e8]
    refine r_if_eq hG 249 dX9_goesOnBehind_223 (by decide) (fun hc223 => absurd hc223 (by decide)) (fun hc223 => ?_)
    refine r_aload_n hG dX9_goesOnBehind_226 rfl ?_
    refine r_getR hG 22 102 fk_X9_82 dX9_goesOnBehind_227 rfl (by decide) rfl (sr hR rfl) ?_
    refine r_aload_n hG dX9_goesOnBehind_230 rfl ?_
    refine r_getIv hG 19 (nI d) fk_X9_255 dX9_goesOnBehind_231 rfl (by decide) rfl hp.2.2.2.2.1 ?_
    refine r_bipush hG (7) dX9_goesOnBehind_234 (by decide) ?_
    refine r_iast hG d dX9_goesOnBehind_236 rfl (by decide) rfl (by omega) (by decide) ?_
    refine r_aload_n hG dX9_goesOnBehind_237 rfl ?_
    refine r_dup hG dX9_goesOnBehind_238 rfl ?_
    refine r_getIv hG 7 (nI a) fk_X9_216 dX9_goesOnBehind_239 rfl (by decide) rfl ((gwI_n (by omega)).trans hp.1) ?_
    refine r_iconst hG (1) dX9_goesOnBehind_242 (by decide) ?_
    refine r_iadd hG dX9_goesOnBehind_243 ?_
    refine r_putI hG 7 fp_X9_216 dX9_goesOnBehind_244 rfl (by decide) rfl rfl rfl ?_
    refine r_iconst hG (1) dX9_goesOnBehind_247 (by decide) ?_
    refine hE _ _ _ _ _ dX9_goesOnBehind_248 rfl (Nat.le_refl _) (Nat.le_refl _) rfl ?_
    have e11 : (q.2.1 a).1 = 11 := hw220
    exact hP _ _ ⟨((hg.put (by unfold SM; omega)).put (by unfold SM; omega)), 0, a + 1, d, u, _, c, hrn.trans (Run.st (st6_y e11)), Or.inl ⟨rfl, rfl, (hp.w3 (x := 11) rfl).at, tw.nx ha (by omega)⟩⟩
  · rw [e8]
    refine r_if_eq hG 249 dX9_goesOnBehind_223 (by decide) (fun hc223 => ?_) (fun hc223 => absurd hc223 (by decide))
    have gs7 : gSt q h n st s0 M0 7 a d u W c M := ⟨hg, hrn.trans (Run.st (st6_n hw220)), hp, ha⟩
    cases d with
    | zero => exact sg249z hG hE hR0 hk0 tw wd0 lh ln hI hU hP gs7
    | succ e => exact sg249s hG hE hR0 hk0 tw wd0 lh ln hI hU hP gs7 hH

set_option maxRecDepth 100000 in
set_option maxHeartbeats 400000 in
theorem sg189 {G : gJ} {P : Int32 → gM → Prop} (hG : gS 2 0 0 yX9_goesOnBehind.cls cX9_goesOnBehind 1 G) (hE : gEi 140 0 0 cX9_goesOnBehind .boolean P G) {M0 : gM} {b : Bool} (hR0 : M0.2.2 = stdR b) {q : kS} (hk0 : tkM M0 q) (tw : tkW q) (wd0 : wdM M0) {h n st : Nat} (lh : h ≤ 1) (ln : n ≤ 16) {c0 : cS} {s0 : mS} (hI : mInv st c0 s0) (hU : uInv s0) (hP : ∀ r M9, goP q h n st s0 M0 r M9 → P r M9) {a d u : Nat} {W : wS} {c : cS} {M : gM} (gs : gSt q h n st s0 M0 5 a d u W c M) (hH : ∀ e, d = e + 1 → ∀ a u W c M, gSt q h n st s0 M0 1 a e u W c M → G (140, 0, 0) 0 [some (.ref 88)] [] M) : G (140, 0, 0) 189 [some (.ref 88)] [] M := by
  obtain ⟨hg, hrn, hp, ha⟩ := gs
  have hR : M.2.2 = stdR b := by rw [hg.1]; exact hR0
  have hk : tkM M q := hk0.mv hg SM_no
  have wd : wdM M := wd0.mv hg.1
  have h601 := tw.2.1
  obtain ⟨i1, i2, -, -, i5, -, i7, i8, i9, -⟩ := mInv_run tw.2.2.2.2.1 hrn hI (by omega)
  have hu : u + (pend W d + wn (W d)) ≤ a := uInv_run hrn hU (by omega)
  have hok := i5 d (Nat.le_refl d)
  refine r_aload_n hG dX9_goesOnBehind_189 rfl ?_
  refine r_getR hG 22 102 fk_X9_82 dX9_goesOnBehind_190 rfl (by decide) rfl (sr hR rfl) ?_
  refine r_aload_n hG dX9_goesOnBehind_193 rfl ?_
  refine r_getIv hG 19 (nI d) fk_X9_255 dX9_goesOnBehind_194 rfl (by decide) rfl hp.2.2.2.2.1 ?_
  refine r_ialdv hG d (wv (W d).2.2) dX9_goesOnBehind_197 rfl (by decide) rfl (by omega) (by decide) (hp.2.2.2.2.2.1 d (Nat.le_refl d)).2.2 ?_
  refine r_if_eq hG 218 dX9_goesOnBehind_198 (by decide) (fun hc198 => ?_) (fun hc198 => ?_)
  · have hw0 := wv_0 (c := (W d).2.2) (by have := hok.2.2; omega)
    exact sg218 hG hE hR0 hk0 tw wd0 lh ln hI hU hP ⟨hg, hrn.trans (Run.st (st5_0 (hw0.mp hc198))), hp, ha⟩ hH
  · refine r_aload_n hG dX9_goesOnBehind_201 rfl ?_
    refine r_bipush hG (7) dX9_goesOnBehind_202 (by decide) ?_
    refine r_iconst hG (0) dX9_goesOnBehind_204 (by decide) ?_
    refine r_cVV2 hG mk_X9_268 dX9_goesOnBehind_205 rfl (by decide) (ct_X9_emit hR hp.2.2.1 hp.2.2.2.1 lh (by omega) _ _) (by decide) ⟨Nat.le_refl _, Nat.le_refl _⟩ (Nat.le_of_ble_eq_true rfl) (fun M9 h9 => ?_)
    rw [h9]
    refine r_aload_n hG dX9_goesOnBehind_208 rfl ?_
    refine r_getR hG 22 102 fk_X9_82 dX9_goesOnBehind_209 rfl (by decide) rfl (sr hR rfl) ?_
    refine r_aload_n hG dX9_goesOnBehind_212 rfl ?_
    refine r_getIv hG 19 (nI d) fk_X9_255 dX9_goesOnBehind_213 rfl (by decide) rfl (((gwI_n (by omega)).trans ((gwI_n (by omega)).trans (gwI_n (by omega)))).trans hp.2.2.2.2.1) ?_
    refine r_iconst hG (0) dX9_goesOnBehind_216 (by decide) ?_
    refine r_iast hG d dX9_goesOnBehind_217 rfl (by decide) rfl (by omega) (by decide) ?_
    have hw0 := wv_0 (c := (W d).2.2) (by have := hok.2.2; omega)
    have hz : (W d).2.2 ≠ 0 := fun z => hc198 (hw0.mpr z)
    have e11 : (W d).2.2 = 11 := by have := hok.2.2; omega
    exact sg218 hG hE hR0 hk0 tw wd0 lh ln hI hU hP ⟨((((hg.put (by unfold SM; omega)).put (by unfold SM; omega)).put (by unfold SM; omega)).put (by unfold SM; omega)), hrn.trans (Run.st (st5_f hz)), (hp.emit (t := ((W d).2.2, 0)) (by rw [e11]; rfl) (by rw [e11]; rfl)).w3 (x := 0) rfl, ha⟩ hH

set_option maxRecDepth 100000 in
set_option maxHeartbeats 400000 in
theorem sg96 {G : gJ} {P : Int32 → gM → Prop} (hG : gS 2 0 0 yX9_goesOnBehind.cls cX9_goesOnBehind 1 G) (hE : gEi 140 0 0 cX9_goesOnBehind .boolean P G) {M0 : gM} {b : Bool} (hR0 : M0.2.2 = stdR b) {q : kS} (hk0 : tkM M0 q) (tw : tkW q) (wd0 : wdM M0) {h n st : Nat} (lh : h ≤ 1) (ln : n ≤ 16) {c0 : cS} {s0 : mS} (hI : mInv st c0 s0) (hU : uInv s0) (hP : ∀ r M9, goP q h n st s0 M0 r M9 → P r M9) {a d u : Nat} {W : wS} {c : cS} {M : gM} (gs : gSt q h n st s0 M0 3 a d u W c M) (hH : ∀ e, d = e + 1 → ∀ a u W c M, gSt q h n st s0 M0 1 a e u W c M → G (140, 0, 0) 0 [some (.ref 88)] [] M) : G (140, 0, 0) 96 [some (.ref 88)] [] M := by
  obtain ⟨hg, hrn, hp, ha⟩ := gs
  have hR : M.2.2 = stdR b := by rw [hg.1]; exact hR0
  have hk : tkM M q := hk0.mv hg SM_no
  have wd : wdM M := wd0.mv hg.1
  have h601 := tw.2.1
  obtain ⟨i1, i2, -, -, i5, -, i7, i8, i9, -⟩ := mInv_run tw.2.2.2.2.1 hrn hI (by omega)
  have hu : u + (pend W d + wn (W d)) ≤ a := uInv_run hrn hU (by omega)
  have hok := i5 d (Nat.le_refl d)
  refine r_aload_n hG dX9_goesOnBehind_96 rfl ?_
  refine r_getR hG 21 101 fk_X9_79 dX9_goesOnBehind_97 rfl (by decide) rfl (sr hR rfl) ?_
  refine r_aload_n hG dX9_goesOnBehind_100 rfl ?_
  refine r_getIv hG 19 (nI d) fk_X9_255 dX9_goesOnBehind_101 rfl (by decide) rfl hp.2.2.2.2.1 ?_
  refine r_ialdv hG d (wv (W d).2.1) dX9_goesOnBehind_104 rfl (by decide) rfl (by omega) (by decide) (hp.2.2.2.2.2.1 d (Nat.le_refl d)).2.1 ?_
  refine r_if_eq hG 135 dX9_goesOnBehind_105 (by decide) (fun hc105 => ?_) (fun hc105 => ?_)
  · refine r_aload_n hG dX9_goesOnBehind_135 rfl ?_
    refine r_bipush hG (60) dX9_goesOnBehind_136 (by decide) ?_
    refine r_cVI1 hG mk_X9_222 dX9_goesOnBehind_138 rfl (by decide) (ct_X9_isSign hR hk tw.2.1 hp.1 ha hp.2.1 (c := 9) (by decide) rfl) (by decide) ⟨Nat.le_refl _, Nat.le_refl _⟩ (Nat.le_of_ble_eq_true rfl) (fun x9 M9 h9 => ?_)
    obtain ⟨h8, e9⟩ := h9; rw [e9]; rcases h8 with ⟨e8, hw138⟩ | ⟨e8, hw138⟩
    · rw [e8]
      refine r_if_ne hG 153 dX9_goesOnBehind_141 (by decide) (fun hc141 => ?_) (fun hc141 => absurd hc141 (by decide))
      refine r_aload_n hG dX9_goesOnBehind_153 rfl ?_
      refine r_getR hG 21 101 fk_X9_79 dX9_goesOnBehind_154 rfl (by decide) rfl (sr hR rfl) ?_
      refine r_aload_n hG dX9_goesOnBehind_157 rfl ?_
      refine r_getIv hG 19 (nI d) fk_X9_255 dX9_goesOnBehind_158 rfl (by decide) rfl hp.2.2.2.2.1 ?_
      refine r_aload_n hG dX9_goesOnBehind_161 rfl ?_
      refine r_bipush hG (60) dX9_goesOnBehind_162 (by decide) ?_
      refine r_cVI1 hG mk_X9_222 dX9_goesOnBehind_164 rfl (by decide) (ct_X9_isSign hR hk tw.2.1 hp.1 ha hp.2.1 (c := 9) (by decide) rfl) (by decide) ⟨Nat.le_refl _, Nat.le_refl _⟩ (Nat.le_of_ble_eq_true rfl) (fun x9 M9 h9 => ?_)
      obtain ⟨h8x, e9⟩ := h9; rw [e9]; rcases h8x with ⟨e8, hw164⟩ | ⟨e8, hw164⟩; rotate_left; exact absurd hw138 hw164
      · rw [e8]
        refine r_if_eq hG 174 dX9_goesOnBehind_167 (by decide) (fun hc167 => absurd hc167 (by decide)) (fun hc167 => ?_)
        refine r_iconst hG (5) dX9_goesOnBehind_170 (by decide) ?_
        refine r_goto hG 176 dX9_goesOnBehind_171 (by decide) ?_
        refine r_iast hG d dX9_goesOnBehind_176 rfl (by decide) rfl (by omega) (by decide) ?_
        refine r_aload_n hG dX9_goesOnBehind_177 rfl ?_
        refine r_dup hG dX9_goesOnBehind_178 rfl ?_
        refine r_getIv hG 7 (nI a) fk_X9_216 dX9_goesOnBehind_179 rfl (by decide) rfl ((gwI_n (by omega)).trans hp.1) ?_
        refine r_iconst hG (1) dX9_goesOnBehind_182 (by decide) ?_
        refine r_iadd hG dX9_goesOnBehind_183 ?_
        refine r_putI hG 7 fp_X9_216 dX9_goesOnBehind_184 rfl (by decide) rfl rfl rfl ?_
        refine r_iconst hG (1) dX9_goesOnBehind_187 (by decide) ?_
        refine hE _ _ _ _ _ dX9_goesOnBehind_188 rfl (Nat.le_refl _) (Nat.le_refl _) rfl ?_
        have hw0 := wv_0 (c := (W d).2.1) (by have := hok.2.1; omega)
        exact hP _ _ ⟨((hg.put (by unfold SM; omega)).put (by unfold SM; omega)), 0, a + 1, d, u, _, c, (hrn.trans (Run.st (st3_0 (hw0.mp hc105)))).trans (Run.st (st4_y (Or.inl hw138))), Or.inl ⟨rfl, rfl, (hp.w2 (x := (q.2.1 a).1) (by rw [hw138]; rfl)).at, tw.nx ha (by omega)⟩⟩
    · rw [e8]
      refine r_if_ne hG 153 dX9_goesOnBehind_141 (by decide) (fun hc141 => absurd hc141 (by decide)) (fun hc141 => ?_)
      refine r_aload_n hG dX9_goesOnBehind_144 rfl ?_
      refine r_bipush hG (61) dX9_goesOnBehind_145 (by decide) ?_
      refine r_cVI1 hG mk_X9_222 dX9_goesOnBehind_147 rfl (by decide) (ct_X9_isSign hR hk tw.2.1 hp.1 ha hp.2.1 (c := 10) (by decide) rfl) (by decide) ⟨Nat.le_refl _, Nat.le_refl _⟩ (Nat.le_of_ble_eq_true rfl) (fun x9 M9 h9 => ?_)
      obtain ⟨h8, e9⟩ := h9; rw [e9]; rcases h8 with ⟨e8, hw147⟩ | ⟨e8, hw147⟩
      · rw [e8]
        refine r_if_eq hG 189 dX9_goesOnBehind_150 (by decide) (fun hc150 => absurd hc150 (by decide)) (fun hc150 => ?_)
        refine r_aload_n hG dX9_goesOnBehind_153 rfl ?_
        refine r_getR hG 21 101 fk_X9_79 dX9_goesOnBehind_154 rfl (by decide) rfl (sr hR rfl) ?_
        refine r_aload_n hG dX9_goesOnBehind_157 rfl ?_
        refine r_getIv hG 19 (nI d) fk_X9_255 dX9_goesOnBehind_158 rfl (by decide) rfl hp.2.2.2.2.1 ?_
        refine r_aload_n hG dX9_goesOnBehind_161 rfl ?_
        refine r_bipush hG (60) dX9_goesOnBehind_162 (by decide) ?_
        refine r_cVI1 hG mk_X9_222 dX9_goesOnBehind_164 rfl (by decide) (ct_X9_isSign hR hk tw.2.1 hp.1 ha hp.2.1 (c := 9) (by decide) rfl) (by decide) ⟨Nat.le_refl _, Nat.le_refl _⟩ (Nat.le_of_ble_eq_true rfl) (fun x9 M9 h9 => ?_)
        obtain ⟨h8x, e9⟩ := h9; rw [e9]; rcases h8x with ⟨e8, hw164⟩ | ⟨e8, hw164⟩; exact absurd hw164 hw138
        · rw [e8]
          refine r_if_eq hG 174 dX9_goesOnBehind_167 (by decide) (fun hc167 => ?_) (fun hc167 => absurd hc167 (by decide))
          refine r_bipush hG (6) dX9_goesOnBehind_174 (by decide) ?_
          refine r_iast hG d dX9_goesOnBehind_176 rfl (by decide) rfl (by omega) (by decide) ?_
          refine r_aload_n hG dX9_goesOnBehind_177 rfl ?_
          refine r_dup hG dX9_goesOnBehind_178 rfl ?_
          refine r_getIv hG 7 (nI a) fk_X9_216 dX9_goesOnBehind_179 rfl (by decide) rfl ((gwI_n (by omega)).trans hp.1) ?_
          refine r_iconst hG (1) dX9_goesOnBehind_182 (by decide) ?_
          refine r_iadd hG dX9_goesOnBehind_183 ?_
          refine r_putI hG 7 fp_X9_216 dX9_goesOnBehind_184 rfl (by decide) rfl rfl rfl ?_
          refine r_iconst hG (1) dX9_goesOnBehind_187 (by decide) ?_
          refine hE _ _ _ _ _ dX9_goesOnBehind_188 rfl (Nat.le_refl _) (Nat.le_refl _) rfl ?_
          have hw0 := wv_0 (c := (W d).2.1) (by have := hok.2.1; omega)
          exact hP _ _ ⟨((hg.put (by unfold SM; omega)).put (by unfold SM; omega)), 0, a + 1, d, u, _, c, (hrn.trans (Run.st (st3_0 (hw0.mp hc105)))).trans (Run.st (st4_y (Or.inr hw147))), Or.inl ⟨rfl, rfl, (hp.w2 (x := (q.2.1 a).1) (by rw [hw147]; rfl)).at, tw.nx ha (by omega)⟩⟩
      · rw [e8]
        refine r_if_eq hG 189 dX9_goesOnBehind_150 (by decide) (fun hc150 => ?_) (fun hc150 => absurd hc150 (by decide))
        have hw0 := wv_0 (c := (W d).2.1) (by have := hok.2.1; omega)
        exact sg189 hG hE hR0 hk0 tw wd0 lh ln hI hU hP ⟨hg, (hrn.trans (Run.st (st3_0 (hw0.mp hc105)))).trans (Run.st (st4_n (fun z => z.elim hw138 hw147))), hp, ha⟩ hH
  · refine r_aload_n hG dX9_goesOnBehind_108 rfl ?_
    refine r_aload_n hG dX9_goesOnBehind_109 rfl ?_
    refine r_getR hG 21 101 fk_X9_79 dX9_goesOnBehind_110 rfl (by decide) rfl (sr hR rfl) ?_
    refine r_aload_n hG dX9_goesOnBehind_113 rfl ?_
    refine r_getIv hG 19 (nI d) fk_X9_255 dX9_goesOnBehind_114 rfl (by decide) rfl hp.2.2.2.2.1 ?_
    refine r_ialdv hG d (wv (W d).2.1) dX9_goesOnBehind_117 rfl (by decide) rfl (by omega) (by decide) (hp.2.2.2.2.2.1 d (Nat.le_refl d)).2.1 ?_
    refine r_iconst hG (0) dX9_goesOnBehind_118 (by decide) ?_
    refine r_cVV2 hG mk_X9_268 dX9_goesOnBehind_119 rfl (by decide) (ct_X9_emit hR hp.2.2.1 hp.2.2.2.1 lh (by omega) _ _) (by decide) ⟨Nat.le_refl _, Nat.le_refl _⟩ (Nat.le_of_ble_eq_true rfl) (fun M9 h9 => ?_)
    rw [h9]
    refine r_aload_n hG dX9_goesOnBehind_122 rfl ?_
    refine r_getR hG 21 101 fk_X9_79 dX9_goesOnBehind_123 rfl (by decide) rfl (sr hR rfl) ?_
    refine r_aload_n hG dX9_goesOnBehind_126 rfl ?_
    refine r_getIv hG 19 (nI d) fk_X9_255 dX9_goesOnBehind_127 rfl (by decide) rfl (((gwI_n (by omega)).trans ((gwI_n (by omega)).trans (gwI_n (by omega)))).trans hp.2.2.2.2.1) ?_
    refine r_iconst hG (0) dX9_goesOnBehind_130 (by decide) ?_
    refine r_iast hG d dX9_goesOnBehind_131 rfl (by decide) rfl (by omega) (by decide) ?_
    refine r_goto hG 189 dX9_goesOnBehind_132 (by decide) ?_
    have hw0 := wv_0 (c := (W d).2.1) (by have := hok.2.1; omega)
    have hz : (W d).2.1 ≠ 0 := fun z => hc105 (hw0.mpr z)
    exact sg189 hG hE hR0 hk0 tw wd0 lh ln hI hU hP ⟨((((hg.put (by unfold SM; omega)).put (by unfold SM; omega)).put (by unfold SM; omega)).put (by unfold SM; omega)), hrn.trans (Run.st (st3_f hz)), (hp.emit (t := ((W d).2.1, 0)) (wv_op (by have := hok.2.1; omega)) (one_op (by have := hok.2.1; omega))).w2 (x := 0) rfl, ha⟩ hH

set_option maxRecDepth 100000 in
set_option maxHeartbeats 400000 in
theorem sg43 {G : gJ} {P : Int32 → gM → Prop} (hG : gS 2 0 0 yX9_goesOnBehind.cls cX9_goesOnBehind 1 G) (hE : gEi 140 0 0 cX9_goesOnBehind .boolean P G) {M0 : gM} {b : Bool} (hR0 : M0.2.2 = stdR b) {q : kS} (hk0 : tkM M0 q) (tw : tkW q) (wd0 : wdM M0) {h n st : Nat} (lh : h ≤ 1) (ln : n ≤ 16) {c0 : cS} {s0 : mS} (hI : mInv st c0 s0) (hU : uInv s0) (hP : ∀ r M9, goP q h n st s0 M0 r M9 → P r M9) {a d u : Nat} {W : wS} {c : cS} {M : gM} (gs : gSt q h n st s0 M0 2 a d u W c M) (hH : ∀ e, d = e + 1 → ∀ a u W c M, gSt q h n st s0 M0 1 a e u W c M → G (140, 0, 0) 0 [some (.ref 88)] [] M) : G (140, 0, 0) 43 [some (.ref 88)] [] M := by
  obtain ⟨hg, hrn, hp, ha⟩ := gs
  have hR : M.2.2 = stdR b := by rw [hg.1]; exact hR0
  have hk : tkM M q := hk0.mv hg SM_no
  have wd : wdM M := wd0.mv hg.1
  have h601 := tw.2.1
  obtain ⟨i1, i2, -, -, i5, -, i7, i8, i9, -⟩ := mInv_run tw.2.2.2.2.1 hrn hI (by omega)
  have hu : u + (pend W d + wn (W d)) ≤ a := uInv_run hrn hU (by omega)
  have hok := i5 d (Nat.le_refl d)
  refine r_aload_n hG dX9_goesOnBehind_43 rfl ?_
  refine r_bipush hG (43) dX9_goesOnBehind_44 (by decide) ?_
  refine r_cVI1 hG mk_X9_222 dX9_goesOnBehind_46 rfl (by decide) (ct_X9_isSign hR hk tw.2.1 hp.1 ha hp.2.1 (c := 7) (by decide) rfl) (by decide) ⟨Nat.le_refl _, Nat.le_refl _⟩ (Nat.le_of_ble_eq_true rfl) (fun x9 M9 h9 => ?_)
  obtain ⟨h8, e9⟩ := h9; rw [e9]; rcases h8 with ⟨e8, hw46⟩ | ⟨e8, hw46⟩
  · rw [e8]
    refine r_if_ne hG 61 dX9_goesOnBehind_49 (by decide) (fun hc49 => ?_) (fun hc49 => absurd hc49 (by decide))
    refine r_aload_n hG dX9_goesOnBehind_61 rfl ?_
    refine r_getR hG 20 100 fk_X9_76 dX9_goesOnBehind_62 rfl (by decide) rfl (sr hR rfl) ?_
    refine r_aload_n hG dX9_goesOnBehind_65 rfl ?_
    refine r_getIv hG 19 (nI d) fk_X9_255 dX9_goesOnBehind_66 rfl (by decide) rfl hp.2.2.2.2.1 ?_
    refine r_aload_n hG dX9_goesOnBehind_69 rfl ?_
    refine r_bipush hG (43) dX9_goesOnBehind_70 (by decide) ?_
    refine r_cVI1 hG mk_X9_222 dX9_goesOnBehind_72 rfl (by decide) (ct_X9_isSign hR hk tw.2.1 hp.1 ha hp.2.1 (c := 7) (by decide) rfl) (by decide) ⟨Nat.le_refl _, Nat.le_refl _⟩ (Nat.le_of_ble_eq_true rfl) (fun x9 M9 h9 => ?_)
    obtain ⟨h8x, e9⟩ := h9; rw [e9]; rcases h8x with ⟨e8, hw72⟩ | ⟨e8, hw72⟩; rotate_left; exact absurd hw46 hw72
    · rw [e8]
      refine r_if_eq hG 82 dX9_goesOnBehind_75 (by decide) (fun hc75 => absurd hc75 (by decide)) (fun hc75 => ?_)
      refine r_iconst hG (3) dX9_goesOnBehind_78 (by decide) ?_
      refine r_goto hG 83 dX9_goesOnBehind_79 (by decide) ?_
      refine r_iast hG d dX9_goesOnBehind_83 rfl (by decide) rfl (by omega) (by decide) ?_
      refine r_aload_n hG dX9_goesOnBehind_84 rfl ?_
      refine r_dup hG dX9_goesOnBehind_85 rfl ?_
      refine r_getIv hG 7 (nI a) fk_X9_216 dX9_goesOnBehind_86 rfl (by decide) rfl ((gwI_n (by omega)).trans hp.1) ?_
      refine r_iconst hG (1) dX9_goesOnBehind_89 (by decide) ?_
      refine r_iadd hG dX9_goesOnBehind_90 ?_
      refine r_putI hG 7 fp_X9_216 dX9_goesOnBehind_91 rfl (by decide) rfl rfl rfl ?_
      refine r_iconst hG (1) dX9_goesOnBehind_94 (by decide) ?_
      refine hE _ _ _ _ _ dX9_goesOnBehind_95 rfl (Nat.le_refl _) (Nat.le_refl _) rfl ?_
      exact hP _ _ ⟨((hg.put (by unfold SM; omega)).put (by unfold SM; omega)), 0, a + 1, d, u, _, c, hrn.trans (Run.st (st2_y (Or.inl hw46))), Or.inl ⟨rfl, rfl, (hp.w1 (x := (q.2.1 a).1) (by rw [hw46]; rfl)).at, tw.nx ha (by omega)⟩⟩
  · rw [e8]
    refine r_if_ne hG 61 dX9_goesOnBehind_49 (by decide) (fun hc49 => absurd hc49 (by decide)) (fun hc49 => ?_)
    refine r_aload_n hG dX9_goesOnBehind_52 rfl ?_
    refine r_bipush hG (45) dX9_goesOnBehind_53 (by decide) ?_
    refine r_cVI1 hG mk_X9_222 dX9_goesOnBehind_55 rfl (by decide) (ct_X9_isSign hR hk tw.2.1 hp.1 ha hp.2.1 (c := 8) (by decide) rfl) (by decide) ⟨Nat.le_refl _, Nat.le_refl _⟩ (Nat.le_of_ble_eq_true rfl) (fun x9 M9 h9 => ?_)
    obtain ⟨h8, e9⟩ := h9; rw [e9]; rcases h8 with ⟨e8, hw55⟩ | ⟨e8, hw55⟩
    · rw [e8]
      refine r_if_eq hG 96 dX9_goesOnBehind_58 (by decide) (fun hc58 => absurd hc58 (by decide)) (fun hc58 => ?_)
      refine r_aload_n hG dX9_goesOnBehind_61 rfl ?_
      refine r_getR hG 20 100 fk_X9_76 dX9_goesOnBehind_62 rfl (by decide) rfl (sr hR rfl) ?_
      refine r_aload_n hG dX9_goesOnBehind_65 rfl ?_
      refine r_getIv hG 19 (nI d) fk_X9_255 dX9_goesOnBehind_66 rfl (by decide) rfl hp.2.2.2.2.1 ?_
      refine r_aload_n hG dX9_goesOnBehind_69 rfl ?_
      refine r_bipush hG (43) dX9_goesOnBehind_70 (by decide) ?_
      refine r_cVI1 hG mk_X9_222 dX9_goesOnBehind_72 rfl (by decide) (ct_X9_isSign hR hk tw.2.1 hp.1 ha hp.2.1 (c := 7) (by decide) rfl) (by decide) ⟨Nat.le_refl _, Nat.le_refl _⟩ (Nat.le_of_ble_eq_true rfl) (fun x9 M9 h9 => ?_)
      obtain ⟨h8x, e9⟩ := h9; rw [e9]; rcases h8x with ⟨e8, hw72⟩ | ⟨e8, hw72⟩; exact absurd hw72 hw46
      · rw [e8]
        refine r_if_eq hG 82 dX9_goesOnBehind_75 (by decide) (fun hc75 => ?_) (fun hc75 => absurd hc75 (by decide))
        refine r_iconst hG (4) dX9_goesOnBehind_82 (by decide) ?_
        refine r_iast hG d dX9_goesOnBehind_83 rfl (by decide) rfl (by omega) (by decide) ?_
        refine r_aload_n hG dX9_goesOnBehind_84 rfl ?_
        refine r_dup hG dX9_goesOnBehind_85 rfl ?_
        refine r_getIv hG 7 (nI a) fk_X9_216 dX9_goesOnBehind_86 rfl (by decide) rfl ((gwI_n (by omega)).trans hp.1) ?_
        refine r_iconst hG (1) dX9_goesOnBehind_89 (by decide) ?_
        refine r_iadd hG dX9_goesOnBehind_90 ?_
        refine r_putI hG 7 fp_X9_216 dX9_goesOnBehind_91 rfl (by decide) rfl rfl rfl ?_
        refine r_iconst hG (1) dX9_goesOnBehind_94 (by decide) ?_
        refine hE _ _ _ _ _ dX9_goesOnBehind_95 rfl (Nat.le_refl _) (Nat.le_refl _) rfl ?_
        exact hP _ _ ⟨((hg.put (by unfold SM; omega)).put (by unfold SM; omega)), 0, a + 1, d, u, _, c, hrn.trans (Run.st (st2_y (Or.inr hw55))), Or.inl ⟨rfl, rfl, (hp.w1 (x := (q.2.1 a).1) (by rw [hw55]; rfl)).at, tw.nx ha (by omega)⟩⟩
    · rw [e8]
      refine r_if_eq hG 96 dX9_goesOnBehind_58 (by decide) (fun hc58 => ?_) (fun hc58 => absurd hc58 (by decide))
      exact sg96 hG hE hR0 hk0 tw wd0 lh ln hI hU hP ⟨hg, hrn.trans (Run.st (st2_n (fun z => z.elim hw46 hw55))), hp, ha⟩ hH

set_option maxRecDepth 100000 in
set_option maxHeartbeats 400000 in
theorem sg0 {G : gJ} {P : Int32 → gM → Prop} (hG : gS 2 0 0 yX9_goesOnBehind.cls cX9_goesOnBehind 1 G) (hE : gEi 140 0 0 cX9_goesOnBehind .boolean P G) {M0 : gM} {b : Bool} (hR0 : M0.2.2 = stdR b) {q : kS} (hk0 : tkM M0 q) (tw : tkW q) (wd0 : wdM M0) {h n st : Nat} (lh : h ≤ 1) (ln : n ≤ 16) {c0 : cS} {s0 : mS} (hI : mInv st c0 s0) (hU : uInv s0) (hP : ∀ r M9, goP q h n st s0 M0 r M9 → P r M9) {a d u : Nat} {W : wS} {c : cS} {M : gM} (gs : gSt q h n st s0 M0 1 a d u W c M) (hH : ∀ e, d = e + 1 → ∀ a u W c M, gSt q h n st s0 M0 1 a e u W c M → G (140, 0, 0) 0 [some (.ref 88)] [] M) : G (140, 0, 0) 0 [some (.ref 88)] [] M := by
  obtain ⟨hg, hrn, hp, ha⟩ := gs
  have hR : M.2.2 = stdR b := by rw [hg.1]; exact hR0
  have hk : tkM M q := hk0.mv hg SM_no
  have wd : wdM M := wd0.mv hg.1
  have h601 := tw.2.1
  obtain ⟨i1, i2, -, -, i5, -, i7, i8, i9, -⟩ := mInv_run tw.2.2.2.2.1 hrn hI (by omega)
  have hu : u + (pend W d + wn (W d)) ≤ a := uInv_run hrn hU (by omega)
  have hok := i5 d (Nat.le_refl d)
  refine r_aload_n hG dX9_goesOnBehind_0 rfl ?_
  refine r_getIv hG 8 (0) fk_X9_219 dX9_goesOnBehind_1 rfl (by decide) rfl hp.2.1 ?_
  refine r_if_ne hG 277 dX9_goesOnBehind_4 (by decide) (fun hc4 => absurd hc4 (by decide)) (fun hc4 => ?_)
  refine r_aload_n hG dX9_goesOnBehind_7 rfl ?_
  refine r_getR hG 20 100 fk_X9_76 dX9_goesOnBehind_8 rfl (by decide) rfl (sr hR rfl) ?_
  refine r_aload_n hG dX9_goesOnBehind_11 rfl ?_
  refine r_getIv hG 19 (nI d) fk_X9_255 dX9_goesOnBehind_12 rfl (by decide) rfl hp.2.2.2.2.1 ?_
  refine r_ialdv hG d (wv (W d).1) dX9_goesOnBehind_15 rfl (by decide) rfl (by omega) (by decide) (hp.2.2.2.2.2.1 d (Nat.le_refl d)).1 ?_
  refine r_if_eq hG 43 dX9_goesOnBehind_16 (by decide) (fun hc16 => ?_) (fun hc16 => ?_)
  · have hw0 := wv_0 (c := (W d).1) (by have := hok.1; omega)
    exact sg43 hG hE hR0 hk0 tw wd0 lh ln hI hU hP ⟨hg, hrn.trans (Run.st (st1_0 (hw0.mp hc16))), hp, ha⟩ hH
  · refine r_aload_n hG dX9_goesOnBehind_19 rfl ?_
    refine r_aload_n hG dX9_goesOnBehind_20 rfl ?_
    refine r_getR hG 20 100 fk_X9_76 dX9_goesOnBehind_21 rfl (by decide) rfl (sr hR rfl) ?_
    refine r_aload_n hG dX9_goesOnBehind_24 rfl ?_
    refine r_getIv hG 19 (nI d) fk_X9_255 dX9_goesOnBehind_25 rfl (by decide) rfl hp.2.2.2.2.1 ?_
    refine r_ialdv hG d (wv (W d).1) dX9_goesOnBehind_28 rfl (by decide) rfl (by omega) (by decide) (hp.2.2.2.2.2.1 d (Nat.le_refl d)).1 ?_
    refine r_iconst hG (0) dX9_goesOnBehind_29 (by decide) ?_
    refine r_cVV2 hG mk_X9_268 dX9_goesOnBehind_30 rfl (by decide) (ct_X9_emit hR hp.2.2.1 hp.2.2.2.1 lh (by omega) _ _) (by decide) ⟨Nat.le_refl _, Nat.le_refl _⟩ (Nat.le_of_ble_eq_true rfl) (fun M9 h9 => ?_)
    rw [h9]
    refine r_aload_n hG dX9_goesOnBehind_33 rfl ?_
    refine r_getR hG 20 100 fk_X9_76 dX9_goesOnBehind_34 rfl (by decide) rfl (sr hR rfl) ?_
    refine r_aload_n hG dX9_goesOnBehind_37 rfl ?_
    refine r_getIv hG 19 (nI d) fk_X9_255 dX9_goesOnBehind_38 rfl (by decide) rfl (((gwI_n (by omega)).trans ((gwI_n (by omega)).trans (gwI_n (by omega)))).trans hp.2.2.2.2.1) ?_
    refine r_iconst hG (0) dX9_goesOnBehind_41 (by decide) ?_
    refine r_iast hG d dX9_goesOnBehind_42 rfl (by decide) rfl (by omega) (by decide) ?_
    have hw0 := wv_0 (c := (W d).1) (by have := hok.1; omega)
    have hz : (W d).1 ≠ 0 := fun z => hc16 (hw0.mpr z)
    exact sg43 hG hE hR0 hk0 tw wd0 lh ln hI hU hP ⟨((((hg.put (by unfold SM; omega)).put (by unfold SM; omega)).put (by unfold SM; omega)).put (by unfold SM; omega)), hrn.trans (Run.st (st1_f hz)), (hp.emit (t := ((W d).1, 0)) (wv_op (by have := hok.1; omega)) (one_op (by have := hok.1; omega))).w1 (x := 0) rfl, ha⟩ hH

theorem lp_X9_go {G : gJ} {P : Int32 → gM → Prop} (hG : gS 2 0 0 yX9_goesOnBehind.cls cX9_goesOnBehind 1 G) (hE : gEi 140 0 0 cX9_goesOnBehind .boolean P G) {M0 : gM} {b : Bool} (hR0 : M0.2.2 = stdR b) {q : kS} (hk0 : tkM M0 q) (tw : tkW q) (wd0 : wdM M0) {h n st : Nat} (lh : h ≤ 1) (ln : n ≤ 16) {c0 : cS} {s0 : mS} (hI : mInv st c0 s0) (hU : uInv s0) (hP : ∀ r M9, goP q h n st s0 M0 r M9 → P r M9) : ∀ (d a u : Nat) (W : wS) (c : cS) (M : gM), gSt q h n st s0 M0 1 a d u W c M → G (140, 0, 0) 0 [some (.ref 88)] [] M := by
  intro d
  induction d with
  | zero => exact fun a u W c M gs => sg0 hG hE hR0 hk0 tw wd0 lh ln hI hU hP gs (fun e he => absurd he (Nat.succ_ne_zero e).symm)
  | succ d ih => exact fun a u W c M gs => sg0 hG hE hR0 hk0 tw wd0 lh ln hI hU hP gs (fun e he a u W c M g => by
      obtain rfl : d = e := by omega
      exact ih a u W c M g)
theorem ct_X9_goesOnBehind {M : gM} {b : Bool} (hR : M.2.2 = stdR b) {q : kS} (hk : tkM M q) (tw : tkW q) (wd : wdM M) {h n st : Nat} (lh : h ≤ 1) (ln : n ≤ 16) {c0 : cS} {a d u : Nat} {W : wS} {c : cS} (hp : psM M h n st a d u W c) (ha : a < q.1) (hI : mInv st c0 (1, a, d, u, W, c)) (hU : uInv (1, a, d, u, W, c)) : gC 2 0 0 yX9_goesOnBehind cX9_goesOnBehind 1 (some .boolean) 140 140 [.ref 88] M (gI (fun r M9 => goP q h n st (1, a, d, u, W, c) M r M9)) := by
  refine gC_i rfl (Nat.le_of_ble_eq_true rfl) (fun G hG hE => ?_)
  exact lp_X9_go hG hE hR hk tw wd lh ln hI hU (fun r M9 g => g) d a u W c M ⟨gEq.rf, Run.rf, hp, ha⟩
set_option maxRecDepth 100000 in
set_option maxHeartbeats 400000 in
theorem ct_X9_goF {M : gM} {b : Bool} (hR : M.2.2 = stdR b) (h8 : ¬ M.1 88 8 = 0) : gC 0 0 0 yX9_goesOnBehind cX9_goesOnBehind 1 (some .boolean) 140 140 [.ref 88] M (gI (fun r M9 => r = 0 ∧ M9 = M)) := by
  refine gC_i rfl (Nat.le_of_ble_eq_true rfl) (fun G hG hE => ?_)
  change G (140, 0, 0) 0 [some (.ref 88)] [] M
  refine r_aload_n hG dX9_goesOnBehind_0 rfl ?_
  refine r_getI hG 8 fk_X9_219 dX9_goesOnBehind_1 rfl (by decide) rfl ?_
  refine r_if_ne hG 277 dX9_goesOnBehind_4 (by decide) (fun hc4 => ?_) (fun hc4 => absurd hc4 h8)
  refine r_iconst hG (0) dX9_goesOnBehind_277 (by decide) ?_
  refine hE _ _ _ _ _ dX9_goesOnBehind_278 rfl (Nat.le_refl _) (Nat.le_refl _) rfl ?_
  exact ⟨rfl, rfl⟩


theorem gM_ext {M M' : gM} (h1 : ∀ k j, M.1 k j = M'.1 k j) (h2 : M.2 = M'.2) : M = M' := Prod.ext (funext fun k => funext fun j => h1 k j) h2
/-- the searcher's moving state: chosen, best, bestDry, bestMiles -/
abbrev pS : Type := (Nat → Int32) × (Nat → Int32) × Int32 × Int32
def setS (M : gM) (s : pS) : gM := (fun k j => if k = 38 then s.1 j else if k = 39 then s.2.1 j else if k = 23 ∧ j = 15 then s.2.2.1 else if k = 23 ∧ j = 16 then s.2.2.2 else M.1 k j, M.2)
def getS (M : gM) : pS := (M.1 38, M.1 39, M.1 23 15, M.1 23 16)
theorem setS_get {M : gM} : setS M (getS M) = M := by
  refine gM_ext (fun k j => ?_) rfl
  simp only [setS, getS]
  split
  · rename_i h; rw [h]
  · split
    · rename_i h; rw [h]
    · split
      · rename_i h; rw [h.1, h.2]
      · split
        · rename_i h; rw [h.1, h.2]
        · rfl
theorem getS_set {M : gM} {s : pS} : getS (setS M s) = s := by
  simp [getS, setS]
theorem setS_set {M : gM} {s s' : pS} : setS (setS M s) s' = setS M s' := by
  refine gM_ext (fun k j => ?_) rfl
  simp only [setS]
  split
  · rfl
  · split
    · rfl
    · split
      · rfl
      · split
        · rfl
        · rename_i h1 h2 h3 h4
          rfl
theorem setS_n {M : gM} {s : pS} {k j : Nat} (h : ¬ (k = 38 ∨ k = 39 ∨ (k = 23 ∧ (j = 15 ∨ j = 16)))) : (setS M s).1 k j = M.1 k j := by
  simp only [setS]
  rw [if_neg (by omega), if_neg (by omega), if_neg (by omega), if_neg (by omega)]
theorem setS_ch {M : gM} {s : pS} {p : Nat} {v : Int32} : gwI (setS M s) 38 p v = setS M (upd s.1 p v, s.2) := by
  refine gM_ext (fun k j => ?_) rfl
  by_cases hk : k = 38
  · subst hk
    by_cases hj : j = p
    · subst hj; rw [gwI_s]; simp [setS, upd]
    · rw [gwI_n (by omega)]; simp [setS, upd, hj]
  · rw [gwI_n (by omega)]
    simp [setS, hk]
def pLoad (M : gM) (sp : Nat → Nat) (pl : Nat → Int32) (t p : Nat) : Int32 := mmin (mmin (M.1 26 t) (pl (sp t))) (M.1 30 p)
/-- the loop over the tankers: f 0, f 1 .. -/
def itr {α : Type} (f : Nat → α → α) : Nat → α → α
  | 0, s => s
  | n + 1, s => f n (itr f n s)
def srch (M : gM) (sp : Nat → Nat) (T n : Nat) : Nat → Nat → Int32 → Int32 → (Nat → Int32) → (Nat → Int32) → pS → pS
  | 0, p, d, m, _, _, s => if s.2.2.1 < d + M.1 40 p ∨ (d + M.1 40 p = s.2.2.1 ∧ ¬ m + M.1 41 p < s.2.2.2) then s else (s.1, (fun j => if j < n then s.1 j else s.2.1 j), d, m)
  | k + 1, p, d, m, pl, ml, s => if s.2.2.1 < d + M.1 40 p ∨ (d + M.1 40 p = s.2.2.1 ∧ ¬ m + M.1 41 p < s.2.2.2) then s else
      let s1 := itr (fun t s => if ¬ ml t < M.1 (p + 32) t ∧ ¬ pLoad M sp pl t p < M.1 29 p then srch M sp T n k (p + 1) d (m + M.1 (p + 32) t) (upd pl (sp t) (pl (sp t) - pLoad M sp pl t p)) (upd ml t (ml t - M.1 (p + 32) t)) (upd s.1 p (nI t), s.2) else s) T s
      srch M sp T n k (p + 1) (d + 1) m pl ml (upd s1.1 p (-1), s1.2)
set_option maxRecDepth 100000 in
set_option maxHeartbeats 400000 in
theorem ct_X2_load {M : gM} {b : Bool} (hR : M.2.2 = stdR b) {T n : Nat} {sp : Nat → Nat} (hT : M.1 23 12 = nI T) (lT : T ≤ 4) (hn : M.1 23 14 = nI n) (ln : n ≤ 6) (hsp : ∀ t, t < T → M.1 25 t = nI (sp t) ∧ sp t < 4) {t p : Nat} (ht : t < T) (hp : p < 6) : gC 1 0 0 yX2_load cX2_load 3 (some .int) 140 140 [.ref 23, .int (nI t), .int (nI p)] M (gI (fun r M9 => r = pLoad M sp (M.1 24) t p ∧ M9 = M)) := by
  refine gC_i rfl (Nat.le_of_ble_eq_true rfl) (fun G hG hE => ?_)
  change G (140, 0, 0) 0 [some (.ref 23), some (.int (nI t)), some (.int (nI p))] [] M
  refine r_aload_n hG dX2_load_0 rfl ?_
  refine r_getR hG 2 26 fk_X2_18 dX2_load_1 rfl (by decide) rfl (sr hR rfl) ?_
  refine r_iload_n hG dX2_load_4 rfl ?_
  refine r_iald hG t dX2_load_5 rfl (by decide) rfl (by omega) (by decide) ?_
  refine r_aload_n hG dX2_load_6 rfl ?_
  refine r_getR hG 0 24 fk_X2_9 dX2_load_7 rfl (by decide) rfl (sr hR rfl) ?_
  refine r_aload_n hG dX2_load_10 rfl ?_
  refine r_getR hG 1 25 fk_X2_15 dX2_load_11 rfl (by decide) rfl (sr hR rfl) ?_
  refine r_iload_n hG dX2_load_14 rfl ?_
  refine r_ialdv hG t (nI (sp t)) dX2_load_15 rfl (by decide) rfl (by omega) (by decide) (hsp t (by omega)).1 ?_
  refine r_iald hG (sp t) dX2_load_16 rfl (by decide) rfl (hsp t ht).2 (by decide) ?_
  refine r_cSI2 hG mk_X2_86 dX2_load_17 (ct_J9_min_7cf53 _ _) (by decide) ⟨Nat.le_refl _, Nat.le_refl _⟩ (Nat.le_of_ble_eq_true rfl) (fun x9 M9 h9 => ?_)
  obtain ⟨e8, e9⟩ := h9
  rw [e8, e9]
  refine r_aload_n hG dX2_load_20 rfl ?_
  refine r_getR hG 6 30 fk_X2_30 dX2_load_21 rfl (by decide) rfl (sr hR rfl) ?_
  refine r_iload_n hG dX2_load_24 rfl ?_
  refine r_iald hG p dX2_load_25 rfl (by decide) rfl (by omega) (by decide) ?_
  refine r_cSI2 hG mk_X2_86 dX2_load_26 (ct_J9_min_7cf53 _ _) (by decide) ⟨Nat.le_refl _, Nat.le_refl _⟩ (Nat.le_of_ble_eq_true rfl) (fun x9 M9 h9 => ?_)
  obtain ⟨e8, e9⟩ := h9
  rw [e8, e9]
  refine hE _ _ _ _ _ dX2_load_29 rfl (Nat.le_refl _) (Nat.le_refl _) rfl ?_
  exact ⟨rfl, rfl⟩

set_option maxRecDepth 100000 in
set_option maxHeartbeats 400000 in
theorem ct_X2_serves {M : gM} {b : Bool} (hR : M.2.2 = stdR b) {T n : Nat} {sp : Nat → Nat} (hT : M.1 23 12 = nI T) (lT : T ≤ 4) (hn : M.1 23 14 = nI n) (ln : n ≤ 6) (hsp : ∀ t, t < T → M.1 25 t = nI (sp t) ∧ sp t < 4) {t p : Nat} (ht : t < T) (hp : p < 6) : gC 2 0 0 yX2_serves cX2_serves 3 (some .boolean) 140 140 [.ref 23, .int (nI t), .int (nI p)] M (gI (fun r M9 => bI (¬ M.1 27 t < M.1 (p + 32) t ∧ ¬ pLoad M sp (M.1 24) t p < M.1 29 p) r ∧ M9 = M)) := by
  refine gC_i rfl (Nat.le_of_ble_eq_true rfl) (fun G hG hE => ?_)
  change G (140, 0, 0) 0 [some (.ref 23), some (.int (nI t)), some (.int (nI p))] [] M
  refine r_aload_n hG dX2_serves_0 rfl ?_
  refine r_getR hG 7 31 fk_X2_35 dX2_serves_1 rfl (by decide) rfl (sr hR rfl) ?_
  refine r_iload_n hG dX2_serves_4 rfl ?_
  refine r_aald8 hG p (p + 32) dX2_serves_5 rfl (by decide) rfl (by omega) (by decide) (sr hR rfl) ?_
  refine r_iload_n hG dX2_serves_6 rfl ?_
  refine r_iald hG t dX2_serves_7 (gkR (by omega)) (show (p + 32) < 140 by omega) rfl (by omega) (by decide) ?_
  refine r_aload_n hG dX2_serves_8 rfl ?_
  refine r_getR hG 3 27 fk_X2_21 dX2_serves_9 rfl (by decide) rfl (sr hR rfl) ?_
  refine r_iload_n hG dX2_serves_12 rfl ?_
  refine r_iald hG t dX2_serves_13 rfl (by decide) rfl (by omega) (by decide) ?_
  refine r_icmp_gt hG 36 dX2_serves_14 (by decide) (fun hc14 => ?_) (fun hc14 => ?_)
  · refine r_iconst hG (0) dX2_serves_36 (by decide) ?_
    refine hE _ _ _ _ _ dX2_serves_37 rfl (Nat.le_refl _) (Nat.le_refl _) rfl ?_
    exact ⟨Or.inr ⟨rfl, fun q => q.1 hc14⟩, rfl⟩
  · refine r_aload_n hG dX2_serves_17 rfl ?_
    refine r_iload_n hG dX2_serves_18 rfl ?_
    refine r_iload_n hG dX2_serves_19 rfl ?_
    refine r_cVI2 hG mk_X2_82 dX2_serves_20 rfl (by decide) (ct_X2_load hR hT lT hn ln hsp ht hp) (by decide) ⟨Nat.le_refl _, Nat.le_refl _⟩ (Nat.le_of_ble_eq_true rfl) (fun x9 M9 h9 => ?_)
    obtain ⟨e8, e9⟩ := h9
    rw [e8, e9]
    refine r_aload_n hG dX2_serves_23 rfl ?_
    refine r_getR hG 5 29 fk_X2_27 dX2_serves_24 rfl (by decide) rfl (sr hR rfl) ?_
    refine r_iload_n hG dX2_serves_27 rfl ?_
    refine r_iald hG p dX2_serves_28 rfl (by decide) rfl (by omega) (by decide) ?_
    refine r_icmp_lt hG 36 dX2_serves_29 (by decide) (fun hc29 => ?_) (fun hc29 => ?_)
    · refine r_iconst hG (0) dX2_serves_36 (by decide) ?_
      refine hE _ _ _ _ _ dX2_serves_37 rfl (Nat.le_refl _) (Nat.le_refl _) rfl ?_
      exact ⟨Or.inr ⟨rfl, fun q => q.2 hc29⟩, rfl⟩
    · refine r_iconst hG (1) dX2_serves_32 (by decide) ?_
      refine r_goto hG 37 dX2_serves_33 (by decide) ?_
      refine hE _ _ _ _ _ dX2_serves_37 rfl (Nat.le_refl _) (Nat.le_refl _) rfl ?_
      exact ⟨Or.inl ⟨rfl, hc14, hc29⟩, rfl⟩

set_option maxRecDepth 100000 in
set_option maxHeartbeats 400000 in
theorem lp_X2_keep  {G : gJ} {P : gM → Prop} (hG : gS 0 0 0 yX2_keep.cls cX2_keep 4 G) (hE : gEv 140 0 0 cX2_keep P G) {M : gM} {b : Bool} (hR : M.2.2 = stdR b) {T n : Nat} {sp : Nat → Nat} (hT : M.1 23 12 = nI T) (lT : T ≤ 4) (hn : M.1 23 14 = nI n) (ln : n ≤ 6) (hsp : ∀ t, t < T → M.1 25 t = nI (sp t) ∧ sp t < 4) {x y : Int32} :
    ∀ (k i : Nat), i + k = n → P (setS M (M.1 38, (fun j => if j < n then M.1 38 j else M.1 39 j), x, y)) → G (140, 0, 0) 12 [some (.ref 23), some (.int x), some (.int y), some (.int (nI i))] [] (setS M (M.1 38, (fun j => if j < i then M.1 38 j else M.1 39 j), x, y)) := by
  intro k
  induction k with
  | zero =>
    intro i hi hP
    refine r_iload_n hG dX2_keep_12 rfl ?_
    refine r_aload_n hG dX2_keep_13 rfl ?_
    refine r_getIv hG 14 (nI n) fk_X2_57 dX2_keep_14 rfl (by decide) rfl ((setS_n (by omega)).trans hn) ?_
    refine r_icmp_ge hG 38 dX2_keep_17 (by decide) (fun hc17 => ?_) (fun hc17 => absurd (nle_f (a := n) (b := i) (by omega) (by omega) hc17) (by omega))
    refine hE _ _ _ _ dX2_keep_38 rfl (Nat.le_refl _) (Nat.le_refl _) ?_
    rw [show n = i by omega] at hP
    exact hP
  | succ k ih =>
    intro i hi hP
    refine r_iload_n hG dX2_keep_12 rfl ?_
    refine r_aload_n hG dX2_keep_13 rfl ?_
    refine r_getIv hG 14 (nI n) fk_X2_57 dX2_keep_14 rfl (by decide) rfl ((setS_n (by omega)).trans hn) ?_
    refine r_icmp_ge hG 38 dX2_keep_17 (by decide) (fun hc17 => absurd (nle_t (a := n) (b := i) (by omega) (by omega) hc17) (by omega)) (fun hc17 => ?_)
    refine r_aload_n hG dX2_keep_20 rfl ?_
    refine r_getR hG 9 39 fk_X2_41 dX2_keep_21 rfl (by decide) rfl (sr (show (setS M _).2.2 = stdR b from hR) rfl) ?_
    refine r_iload_n hG dX2_keep_24 rfl ?_
    refine r_aload_n hG dX2_keep_25 rfl ?_
    refine r_getR hG 8 38 fk_X2_38 dX2_keep_26 rfl (by decide) rfl (sr (show (setS M _).2.2 = stdR b from hR) rfl) ?_
    refine r_iload_n hG dX2_keep_29 rfl ?_
    refine r_ialdv hG i (M.1 38 i) dX2_keep_30 rfl (by decide) rfl (by omega) (by decide) rfl ?_
    refine r_iast hG i dX2_keep_31 rfl (by decide) rfl (by omega) (by decide) ?_
    refine r_iinc hG (1) dX2_keep_32 (by decide) rfl ?_
    refine r_loc [some (.ref 23), some (.int x), some (.int y), some (.int ((nI i) + (1)))] rfl ?_
    refine r_goto hG 12 dX2_keep_35 (by decide) ?_
    rw [nI_1]
    refine r_mem _ ?_ (ih (i + 1) (by omega) hP)
    refine gM_ext (fun k j => ?_) rfl
    by_cases e : k = 39 ∧ j = i
    · obtain ⟨rfl, rfl⟩ := e
      rw [gwI_s]
      simp [setS]
    · rw [gwI_n e]
      simp only [setS]
      by_cases e2 : k = 39
      · subst e2
        have hj : j ≠ i := fun q => e ⟨rfl, q⟩
        by_cases e3 : j < i
        · simp [e3, show j < i + 1 by omega]
        · simp [e3, show ¬ j < i + 1 by omega]
      · simp [e2]

set_option maxRecDepth 100000 in
set_option maxHeartbeats 400000 in
theorem ct_X2_keep {M : gM} {b : Bool} (hR : M.2.2 = stdR b) {T n : Nat} {sp : Nat → Nat} (hT : M.1 23 12 = nI T) (lT : T ≤ 4) (hn : M.1 23 14 = nI n) (ln : n ≤ 6) (hsp : ∀ t, t < T → M.1 25 t = nI (sp t) ∧ sp t < 4) (x y : Int32) : gC 0 0 0 yX2_keep cX2_keep 4 none 140 140 [.ref 23, .int x, .int y] M (gV (fun M9 => M9 = setS M (M.1 38, (fun j => if j < n then M.1 38 j else M.1 39 j), x, y))) := by
  refine gC_v rfl (Nat.le_of_ble_eq_true rfl) (fun G hG hE => ?_)
  change G (140, 0, 0) 0 [some (.ref 23), some (.int x), some (.int y), none] [] M
  refine r_aload_n hG dX2_keep_0 rfl ?_
  refine r_iload_n hG dX2_keep_1 rfl ?_
  refine r_putI hG 15 fp_X2_68 dX2_keep_2 rfl (by decide) rfl rfl rfl ?_
  refine r_aload_n hG dX2_keep_5 rfl ?_
  refine r_iload_n hG dX2_keep_6 rfl ?_
  refine r_putI hG 16 fp_X2_71 dX2_keep_7 rfl (by decide) rfl rfl rfl ?_
  refine r_iconst hG (0) dX2_keep_10 (by decide) ?_
  refine r_istore_n hG dX2_keep_11 (by decide) ?_
  refine r_loc [some (.ref 23), some (.int x), some (.int y), some (.int (0))] rfl ?_
  refine r_mem _ ?_ (lp_X2_keep hG hE hR hT lT hn ln hsp n 0 (by omega) rfl)
  refine gM_ext (fun k j => ?_) rfl
  by_cases e1 : k = 23 ∧ j = 16
  · obtain ⟨rfl, rfl⟩ := e1
    rw [gwI_s]
    simp [setS]
  · rw [gwI_n e1]
    by_cases e2 : k = 23 ∧ j = 15
    · obtain ⟨rfl, rfl⟩ := e2
      rw [gwI_s]
      simp [setS]
    · rw [gwI_n e2]
      simp only [setS]
      split
      · rename_i h; rw [h]
      · split
        · rename_i h; rw [h]; simp
        · rfl

/-- what the search reads of the memory -/
def pSt (q : Nat) : Prop := q = 26 ∨ q = 29 ∨ q = 30 ∨ (32 ≤ q ∧ q < 38) ∨ q = 40 ∨ q = 41
theorem pLoad_congr {M M' : gM} {sp : Nat → Nat} (h : ∀ q j, pSt q → M'.1 q j = M.1 q j) (pl : Nat → Int32) (t p : Nat) : pLoad M' sp pl t p = pLoad M sp pl t p := by
  unfold pLoad
  rw [h 26 t (by unfold pSt; omega), h 30 p (by unfold pSt; omega)]
theorem srch_congr {M M' : gM} {sp : Nat → Nat} {T n : Nat} (h : ∀ q j, pSt q → M'.1 q j = M.1 q j) : ∀ (k p : Nat) (d m : Int32) (pl ml : Nat → Int32) (s : pS), p + k ≤ 6 → srch M' sp T n k p d m pl ml s = srch M sp T n k p d m pl ml s := by
  intro k
  induction k with
  | zero =>
    intro p d m pl ml s hp
    unfold srch
    rw [h 40 p (by unfold pSt; omega), h 41 p (by unfold pSt; omega)]
  | succ k ih =>
    intro p d m pl ml s hp
    unfold srch
    rw [h 40 p (by unfold pSt; omega), h 41 p (by unfold pSt; omega)]
    have e : (fun t (s : pS) => if ¬ ml t < M'.1 (p + 32) t ∧ ¬ pLoad M' sp pl t p < M'.1 29 p then srch M' sp T n k (p + 1) d (m + M'.1 (p + 32) t) (upd pl (sp t) (pl (sp t) - pLoad M' sp pl t p)) (upd ml t (ml t - M'.1 (p + 32) t)) (upd s.1 p (nI t), s.2) else s) = (fun t (s : pS) => if ¬ ml t < M.1 (p + 32) t ∧ ¬ pLoad M sp pl t p < M.1 29 p then srch M sp T n k (p + 1) d (m + M.1 (p + 32) t) (upd pl (sp t) (pl (sp t) - pLoad M sp pl t p)) (upd ml t (ml t - M.1 (p + 32) t)) (upd s.1 p (nI t), s.2) else s) := by
      funext t s
      rw [pLoad_congr h, h (p + 32) t (by unfold pSt; omega), h 29 p (by unfold pSt; omega), ih _ _ _ _ _ _ (by omega)]
    rw [e]
    split
    · rfl
    · exact ih _ _ _ _ _ _ (by omega)
/-- a step of the loop over the tankers -/
def fT (M : gM) (sp : Nat → Nat) (T n k p : Nat) (d m : Int32) (pl ml : Nat → Int32) (t : Nat) (s : pS) : pS := if ¬ ml t < M.1 (p + 32) t ∧ ¬ pLoad M sp pl t p < M.1 29 p then srch M sp T n k (p + 1) d (m + M.1 (p + 32) t) (upd pl (sp t) (pl (sp t) - pLoad M sp pl t p)) (upd ml t (ml t - M.1 (p + 32) t)) (upd s.1 p (nI t), s.2) else s
/-- the contract of search, k places from the end -/
def cSearch (k : Nat) : Prop := ∀ {M : gM} {b : Bool} (_ : M.2.2 = stdR b) {T n : Nat} {sp : Nat → Nat} (_ : M.1 23 12 = nI T) (_ : T ≤ 4) (_ : M.1 23 14 = nI n) (_ : n ≤ 6) (_ : ∀ t, t < T → M.1 25 t = nI (sp t) ∧ sp t < 4) (p : Nat) (d m : Int32), p + k = n →
  gC (3 + 2 * k) 0 0 yX2_search cX2_search 6 none 140 140 [.ref 23, .int (nI p), .int d, .int m] M (gV (fun M9 => M9 = setS M (srch M sp T n k p d m (M.1 24) (M.1 27) (getS M))))
theorem sub_add_I (x y : Int32) : x - y + y = x := Int32.sub_add_cancel x y
set_option maxRecDepth 100000 in
set_option maxHeartbeats 400000 in
theorem ct_X2_tryTrip {M : gM} {b : Bool} (hR : M.2.2 = stdR b) {T n : Nat} {sp : Nat → Nat} (hT : M.1 23 12 = nI T) (lT : T ≤ 4) (hn : M.1 23 14 = nI n) (ln : n ≤ 6) (hsp : ∀ t, t < T → M.1 25 t = nI (sp t) ∧ sp t < 4) {k : Nat} (hS : cSearch k) {t p : Nat} (ht : t < T) (hp : p + 1 + k = n) (d m : Int32) : gC (4 + 2 * k) 0 0 yX2_tryTrip cX2_tryTrip 7 none 140 140 [.ref 23, .int (nI t), .int (nI p), .int d, .int m] M (gV (fun M9 => M9 = setS M (srch M sp T n k (p + 1) d (m + M.1 (p + 32) t) (upd (M.1 24) (sp t) (M.1 24 (sp t) - pLoad M sp (M.1 24) t p)) (upd (M.1 27) t (M.1 27 t - M.1 (p + 32) t)) (upd (M.1 38) p (nI t), M.1 39, M.1 23 15, M.1 23 16)))) := by
  refine gC_v rfl (Nat.le_of_ble_eq_true rfl) (fun G hG hE => ?_)
  change G (140, 0, 0) 0 [some (.ref 23), some (.int (nI t)), some (.int (nI p)), some (.int d), some (.int m), none, none] [] M
  refine r_aload_n hG dX2_tryTrip_0 rfl ?_
  refine r_getR hG 7 31 fk_X2_35 dX2_tryTrip_1 rfl (by decide) rfl (sr hR rfl) ?_
  refine r_iload_n hG dX2_tryTrip_4 rfl ?_
  refine r_aald8 hG p (p + 32) dX2_tryTrip_5 rfl (by decide) rfl (by omega) (by decide) (sr hR rfl) ?_
  refine r_iload_n hG dX2_tryTrip_6 rfl ?_
  refine r_iald hG t dX2_tryTrip_7 (gkR (by omega)) (show (p + 32) < 140 by omega) rfl (by omega) (by decide) ?_
  refine r_istore hG dX2_tryTrip_8 (by decide) ?_
  refine r_loc [some (.ref 23), some (.int (nI t)), some (.int (nI p)), some (.int d), some (.int m), some (.int (M.1 (p + 32) t)), none] rfl ?_
  refine r_aload_n hG dX2_tryTrip_10 rfl ?_
  refine r_iload_n hG dX2_tryTrip_11 rfl ?_
  refine r_iload_n hG dX2_tryTrip_12 rfl ?_
  refine r_cVI2 hG mk_X2_82 dX2_tryTrip_13 rfl (by decide) (ct_X2_load hR hT lT hn ln hsp ht (by omega)) (by omega) ⟨Nat.le_refl _, Nat.le_refl _⟩ (Nat.le_of_ble_eq_true rfl) (fun x9 M9 h9 => ?_)
  obtain ⟨e8, e9⟩ := h9
  rw [e8, e9]
  refine r_istore hG dX2_tryTrip_16 (by decide) ?_
  refine r_loc [some (.ref 23), some (.int (nI t)), some (.int (nI p)), some (.int d), some (.int m), some (.int (M.1 (p + 32) t)), some (.int (pLoad M sp (M.1 24) t p))] rfl ?_
  refine r_aload_n hG dX2_tryTrip_18 rfl ?_
  refine r_getR hG 8 38 fk_X2_38 dX2_tryTrip_19 rfl (by decide) rfl (sr hR rfl) ?_
  refine r_iload_n hG dX2_tryTrip_22 rfl ?_
  refine r_iload_n hG dX2_tryTrip_23 rfl ?_
  refine r_iast hG p dX2_tryTrip_24 rfl (by decide) rfl (by omega) (by decide) ?_
  refine r_aload_n hG dX2_tryTrip_25 rfl ?_
  refine r_getR hG 3 27 fk_X2_21 dX2_tryTrip_26 rfl (by decide) rfl (sr hR rfl) ?_
  refine r_iload_n hG dX2_tryTrip_29 rfl ?_
  refine r_dup2 hG dX2_tryTrip_30 rfl rfl ?_
  refine r_ialdv hG t (M.1 27 t) dX2_tryTrip_31 rfl (by decide) rfl (by omega) (by decide) (gwI_n (by omega)) ?_
  refine r_iload hG dX2_tryTrip_32 rfl ?_
  refine r_isub hG dX2_tryTrip_34 ?_
  refine r_iast hG t dX2_tryTrip_35 rfl (by decide) rfl (by omega) (by decide) ?_
  refine r_aload_n hG dX2_tryTrip_36 rfl ?_
  refine r_getR hG 0 24 fk_X2_9 dX2_tryTrip_37 rfl (by decide) rfl (sr hR rfl) ?_
  refine r_aload_n hG dX2_tryTrip_40 rfl ?_
  refine r_getR hG 1 25 fk_X2_15 dX2_tryTrip_41 rfl (by decide) rfl (sr hR rfl) ?_
  refine r_iload_n hG dX2_tryTrip_44 rfl ?_
  refine r_ialdv hG t (nI (sp t)) dX2_tryTrip_45 rfl (by decide) rfl (by omega) (by decide) (((gwI_n (by omega)).trans (gwI_n (by omega))).trans (hsp t (by omega)).1) ?_
  refine r_dup2 hG dX2_tryTrip_46 rfl rfl ?_
  refine r_ialdv hG (sp t) (M.1 24 (sp t)) dX2_tryTrip_47 rfl (by decide) rfl (hsp t ht).2 (by decide) ((gwI_n (by omega)).trans (gwI_n (by omega))) ?_
  refine r_iload hG dX2_tryTrip_48 rfl ?_
  refine r_isub hG dX2_tryTrip_50 ?_
  refine r_iast hG (sp t) dX2_tryTrip_51 rfl (by decide) rfl (hsp t ht).2 (by decide) ?_
  refine r_aload_n hG dX2_tryTrip_52 rfl ?_
  refine r_iload_n hG dX2_tryTrip_53 rfl ?_
  refine r_iconst hG (1) dX2_tryTrip_54 (by decide) ?_
  refine r_iadd hG dX2_tryTrip_55 ?_
  refine r_top (nI (p + 1)) (nI_1 p) ?_
  refine r_iload_n hG dX2_tryTrip_56 rfl ?_
  refine r_iload hG dX2_tryTrip_57 rfl ?_
  refine r_iload hG dX2_tryTrip_59 rfl ?_
  refine r_iadd hG dX2_tryTrip_61 ?_
  have hsp3 : ∀ t9, t9 < T → (gwI (gwI (gwI M 38 p (nI t)) 27 t (M.1 27 t - M.1 (p + 32) t)) 24 (sp t) (M.1 24 (sp t) - pLoad M sp (M.1 24) t p)).1 25 t9 = nI (sp t9) ∧ sp t9 < 4 := fun t9 h9 => ⟨by rw [gwI_n (by omega), gwI_n (by omega), gwI_n (by omega)]; exact (hsp t9 h9).1, (hsp t9 h9).2⟩
  refine r_cVV3 hG mk_X2_74 dX2_tryTrip_62 rfl (by decide) (hS (M := (gwI (gwI (gwI M 38 p (nI t)) 27 t (M.1 27 t - M.1 (p + 32) t)) 24 (sp t) (M.1 24 (sp t) - pLoad M sp (M.1 24) t p))) (by exact hR) (by exact hT) lT (by exact hn) ln (by exact hsp3) (p + 1) d _ (by omega)) (by omega) ⟨Nat.le_refl _, Nat.le_refl _⟩ (Nat.le_of_ble_eq_true rfl) (fun M62 h9 => ?_)
  have e62 : M62 = setS (gwI (gwI (gwI M 38 p (nI t)) 27 t (M.1 27 t - M.1 (p + 32) t)) 24 (sp t) (M.1 24 (sp t) - pLoad M sp (M.1 24) t p)) (srch M sp T n k (p + 1) d (m + M.1 (p + 32) t) (upd (M.1 24) (sp t) (M.1 24 (sp t) - pLoad M sp (M.1 24) t p)) (upd (M.1 27) t (M.1 27 t - M.1 (p + 32) t)) (upd (M.1 38) p (nI t), M.1 39, M.1 23 15, M.1 23 16)) := by
    rw [h9, srch_congr (M := M) (fun q j hq => by unfold pSt at hq; rw [gwI_n (by omega), gwI_n (by omega), gwI_n (by omega)]) _ _ _ _ _ _ _ (by omega)]
    have g1 : (gwI (gwI (gwI M 38 p (nI t)) 27 t (M.1 27 t - M.1 (p + 32) t)) 24 (sp t) (M.1 24 (sp t) - pLoad M sp (M.1 24) t p)).1 24 = upd (M.1 24) (sp t) (M.1 24 (sp t) - pLoad M sp (M.1 24) t p) := by funext j; simp [gwI_rd, upd]
    have g2 : (gwI (gwI (gwI M 38 p (nI t)) 27 t (M.1 27 t - M.1 (p + 32) t)) 24 (sp t) (M.1 24 (sp t) - pLoad M sp (M.1 24) t p)).1 27 = upd (M.1 27) t (M.1 27 t - M.1 (p + 32) t) := by funext j; simp [gwI_rd, upd]
    have g3 : getS (gwI (gwI (gwI M 38 p (nI t)) 27 t (M.1 27 t - M.1 (p + 32) t)) 24 (sp t) (M.1 24 (sp t) - pLoad M sp (M.1 24) t p)) = (upd (M.1 38) p (nI t), M.1 39, M.1 23 15, M.1 23 16) := by
      have g4 : (gwI (gwI (gwI M 38 p (nI t)) 27 t (M.1 27 t - M.1 (p + 32) t)) 24 (sp t) (M.1 24 (sp t) - pLoad M sp (M.1 24) t p)).1 38 = upd (M.1 38) p (nI t) := by funext j; simp [gwI_rd, upd]
      have g5 : (gwI (gwI (gwI M 38 p (nI t)) 27 t (M.1 27 t - M.1 (p + 32) t)) 24 (sp t) (M.1 24 (sp t) - pLoad M sp (M.1 24) t p)).1 39 = M.1 39 := by funext j; simp [gwI_rd]
      simp only [getS]
      rw [g4, g5]
      simp [gwI_rd]
    rw [g1, g2, g3]
  have hR : M62.2.2 = stdR b := by rw [e62]; exact hR
  have hs4 := (hsp t ht).2
  have h25 : M62.1 25 t = nI (sp t) := by rw [e62, setS_n (by omega), gwI_n (by omega), gwI_n (by omega), gwI_n (by omega)]; exact (hsp t ht).1
  have h24 : M62.1 24 (sp t) = M.1 24 (sp t) - pLoad M sp (M.1 24) t p := by rw [e62, setS_n (by omega), gwI_s]
  have h27 : M62.1 27 t = M.1 27 t - M.1 (p + 32) t := by rw [e62, setS_n (by omega), gwI_n (by omega), gwI_s]
  refine r_aload_n hG dX2_tryTrip_65 rfl ?_
  refine r_getR hG 3 27 fk_X2_21 dX2_tryTrip_66 rfl (by decide) rfl (sr hR rfl) ?_
  refine r_iload_n hG dX2_tryTrip_69 rfl ?_
  refine r_dup2 hG dX2_tryTrip_70 rfl rfl ?_
  refine r_ialdv hG t (M.1 27 t - M.1 (p + 32) t) dX2_tryTrip_71 rfl (by decide) rfl (by omega) (by decide) h27 ?_
  refine r_iload hG dX2_tryTrip_72 rfl ?_
  refine r_iadd hG dX2_tryTrip_74 ?_
  refine r_iast hG t dX2_tryTrip_75 rfl (by decide) rfl (by omega) (by decide) ?_
  refine r_aload_n hG dX2_tryTrip_76 rfl ?_
  refine r_getR hG 0 24 fk_X2_9 dX2_tryTrip_77 rfl (by decide) rfl (sr hR rfl) ?_
  refine r_aload_n hG dX2_tryTrip_80 rfl ?_
  refine r_getR hG 1 25 fk_X2_15 dX2_tryTrip_81 rfl (by decide) rfl (sr hR rfl) ?_
  refine r_iload_n hG dX2_tryTrip_84 rfl ?_
  refine r_ialdv hG t (nI (sp t)) dX2_tryTrip_85 rfl (by decide) rfl (by omega) (by decide) ((gwI_n (by omega)).trans h25) ?_
  refine r_dup2 hG dX2_tryTrip_86 rfl rfl ?_
  refine r_ialdv hG (sp t) (M.1 24 (sp t) - pLoad M sp (M.1 24) t p) dX2_tryTrip_87 rfl (by decide) rfl (hsp t ht).2 (by decide) ((gwI_n (by omega)).trans h24) ?_
  refine r_iload hG dX2_tryTrip_88 rfl ?_
  refine r_iadd hG dX2_tryTrip_90 ?_
  refine r_iast hG (sp t) dX2_tryTrip_91 rfl (by decide) rfl (hsp t ht).2 (by decide) ?_
  refine hE _ _ _ _ dX2_tryTrip_92 rfl (Nat.le_refl _) (Nat.le_refl _) ?_
  rw [sub_add_I, sub_add_I, e62]
  refine gM_ext (fun q j => ?_) rfl
  by_cases a1 : q = 24 ∧ j = sp t
  · obtain ⟨rfl, rfl⟩ := a1
    rw [gwI_s, setS_n (by omega)]
  · rw [gwI_n a1]
    by_cases a2 : q = 27 ∧ j = t
    · obtain ⟨rfl, rfl⟩ := a2
      rw [gwI_s, setS_n (by omega)]
    · rw [gwI_n a2]
      by_cases a3 : q = 38 ∨ q = 39 ∨ (q = 23 ∧ (j = 15 ∨ j = 16))
      · simp only [setS]
        rcases a3 with rfl | rfl | ⟨rfl, rfl | rfl⟩ <;> simp
      · rw [setS_n a3, setS_n a3, gwI_n a1, gwI_n a2, gwI_n (fun q => a3 (Or.inl q.1))]

theorem srch_prune {M : gM} {sp : Nat → Nat} {T n k p : Nat} {d m : Int32} {pl ml : Nat → Int32} {s : pS} (h : s.2.2.1 < d + M.1 40 p ∨ (d + M.1 40 p = s.2.2.1 ∧ ¬ m + M.1 41 p < s.2.2.2)) : srch M sp T n k p d m pl ml s = s := by
  cases k <;> unfold srch <;> rw [if_pos h]
theorem srch_0 {M : gM} {sp : Nat → Nat} {T n p : Nat} {d m : Int32} {pl ml : Nat → Int32} {s : pS} (h : ¬ (s.2.2.1 < d + M.1 40 p ∨ (d + M.1 40 p = s.2.2.1 ∧ ¬ m + M.1 41 p < s.2.2.2))) : srch M sp T n 0 p d m pl ml s = (s.1, (fun j => if j < n then s.1 j else s.2.1 j), d, m) := by
  unfold srch
  rw [if_neg h]
theorem srch_s {M : gM} {sp : Nat → Nat} {T n k p : Nat} {d m : Int32} {pl ml : Nat → Int32} {s : pS} (h : ¬ (s.2.2.1 < d + M.1 40 p ∨ (d + M.1 40 p = s.2.2.1 ∧ ¬ m + M.1 41 p < s.2.2.2))) : srch M sp T n (k + 1) p d m pl ml s = srch M sp T n k (p + 1) (d + 1) m pl ml (upd (itr (fT M sp T n k p d m pl ml) T s).1 p (-1), (itr (fT M sp T n k p d m pl ml) T s).2) := by
  conv => lhs; unfold srch
  rw [if_neg h]
  rfl
theorem setS24 {M : gM} {s : pS} : (setS M s).1 24 = M.1 24 := by funext j; exact setS_n (by omega)
theorem setS27 {M : gM} {s : pS} : (setS M s).1 27 = M.1 27 := by funext j; exact setS_n (by omega)
theorem pSt_set {M : gM} {s : pS} : ∀ q j, pSt q → (setS M s).1 q j = M.1 q j := fun q j h => setS_n (by unfold pSt at h; omega)
theorem srch_set {M : gM} {sp : Nat → Nat} {T n k p : Nat} {d m : Int32} {s : pS} (hp : p + k ≤ 6) : setS (setS M s) (srch (setS M s) sp T n k p d m ((setS M s).1 24) ((setS M s).1 27) (getS (setS M s))) = setS M (srch M sp T n k p d m (M.1 24) (M.1 27) s) := by
  rw [setS_set, getS_set, setS24, setS27, srch_congr pSt_set _ _ _ _ _ _ _ hp]
set_option maxRecDepth 100000 in
set_option maxHeartbeats 400000 in
theorem lp_X2_search {k : Nat} {G : gJ} {P : gM → Prop} (hG : gS (3 + 2 * (k + 1)) 0 0 yX2_search.cls cX2_search 6 G) (hE : gEv 140 0 0 cX2_search P G) {M : gM} {b : Bool} (hR : M.2.2 = stdR b) {T n : Nat} {sp : Nat → Nat} (hT : M.1 23 12 = nI T) (lT : T ≤ 4) (hn : M.1 23 14 = nI n) (ln : n ≤ 6) (hsp : ∀ t, t < T → M.1 25 t = nI (sp t) ∧ sp t < 4) (hS : cSearch k) {p : Nat} (hp : p + 1 + k = n) (d m : Int32) (s0 : pS) (x4 : Int32) :
    ∀ (r t : Nat), t + r = T → P (setS M (srch M sp T n k (p + 1) (d + 1) m (M.1 24) (M.1 27) (upd (itr (fT M sp T n k p d m (M.1 24) (M.1 27)) T s0).1 p (-1), (itr (fT M sp T n k p d m (M.1 24) (M.1 27)) T s0).2))) → G (140, 0, 0) 62 [some (.ref 23), some (.int (nI p)), some (.int d), some (.int m), some (.int x4), some (.int (nI t))] [] (setS M (itr (fT M sp T n k p d m (M.1 24) (M.1 27)) t s0)) := by
  intro r
  induction r with
  | zero =>
    intro t ht hP
    refine r_iload hG dX2_search_62 rfl ?_
    refine r_aload_n hG dX2_search_64 rfl ?_
    refine r_getIv hG 12 (nI T) fk_X2_50 dX2_search_65 rfl (by decide) rfl ((setS_n (by omega)).trans hT) ?_
    refine r_icmp_ge hG 96 dX2_search_68 (by decide) (fun hc68 => ?_) (fun hc68 => absurd (nle_f (a := T) (b := t) (by omega) (by omega) hc68) (by omega))
    refine r_aload_n hG dX2_search_96 rfl ?_
    refine r_getR hG 8 38 fk_X2_38 dX2_search_97 rfl (by decide) rfl (sr (show (setS M _).2.2 = stdR b from hR) rfl) ?_
    refine r_iload_n hG dX2_search_100 rfl ?_
    refine r_iconst hG (-1) dX2_search_101 (by decide) ?_
    refine r_iast hG p dX2_search_102 rfl (by decide) rfl (by omega) (by decide) ?_
    refine r_mem (setS M (upd (itr (fT M sp T n k p d m (M.1 24) (M.1 27)) T s0).1 p (-1), (itr (fT M sp T n k p d m (M.1 24) (M.1 27)) T s0).2)) (by rw [setS_ch, show t = T by omega]) ?_
    refine r_aload_n hG dX2_search_103 rfl ?_
    refine r_iload_n hG dX2_search_104 rfl ?_
    refine r_iconst hG (1) dX2_search_105 (by decide) ?_
    refine r_iadd hG dX2_search_106 ?_
    refine r_top (nI (p + 1)) (nI_1 p) ?_
    refine r_iload_n hG dX2_search_107 rfl ?_
    refine r_iconst hG (1) dX2_search_108 (by decide) ?_
    refine r_iadd hG dX2_search_109 ?_
    refine r_iload_n hG dX2_search_110 rfl ?_
    refine r_cVV3 hG mk_X2_74 dX2_search_111 rfl (by decide) (hS (M := setS M (upd (itr (fT M sp T n k p d m (M.1 24) (M.1 27)) T s0).1 p (-1), (itr (fT M sp T n k p d m (M.1 24) (M.1 27)) T s0).2)) (by exact hR) (by rw [setS_n (by omega)]; exact hT) lT (by rw [setS_n (by omega)]; exact hn) ln (fun t9 h9 => by rw [setS_n (by omega)]; exact hsp t9 h9) (p + 1) (d + 1) m (by omega)) (by omega) ⟨Nat.le_refl _, Nat.le_refl _⟩ (Nat.le_of_ble_eq_true rfl) (fun M9 h9 => ?_)
    rw [h9, srch_set (by omega)]
    refine hE _ _ _ _ dX2_search_114 rfl (Nat.le_refl _) (Nat.le_refl _) ?_
    exact hP
  | succ r ih =>
    intro t ht hP
    refine r_iload hG dX2_search_62 rfl ?_
    refine r_aload_n hG dX2_search_64 rfl ?_
    refine r_getIv hG 12 (nI T) fk_X2_50 dX2_search_65 rfl (by decide) rfl ((setS_n (by omega)).trans hT) ?_
    refine r_icmp_ge hG 96 dX2_search_68 (by decide) (fun hc68 => absurd (nle_t (a := T) (b := t) (by omega) (by omega) hc68) (by omega)) (fun hc68 => ?_)
    refine r_aload_n hG dX2_search_71 rfl ?_
    refine r_iload hG dX2_search_72 rfl ?_
    refine r_iload_n hG dX2_search_74 rfl ?_
    refine r_cVI2 hG mk_X2_78 dX2_search_75 rfl (by decide) (ct_X2_serves (M := (setS M (itr (fT M sp T n k p d m (M.1 24) (M.1 27)) t s0))) (by exact hR) (by rw [setS_n (by omega)]; exact hT) lT (by rw [setS_n (by omega)]; exact hn) ln (fun t9 h9 => by rw [setS_n (by omega)]; exact hsp t9 h9) (t := t) (p := p) (by omega) (by omega)) (by omega) ⟨Nat.le_refl _, Nat.le_refl _⟩ (Nat.le_of_ble_eq_true rfl) (fun x9 M9 h9 => ?_)
    obtain ⟨h8, e9⟩ := h9; rw [e9]; rw [setS24, setS27, pLoad_congr pSt_set, setS_n (by omega), setS_n (by omega)] at h8; rcases h8 with ⟨e8, hw75⟩ | ⟨e8, hw75⟩
    · rw [e8]
      refine r_if_eq hG 90 dX2_search_78 (by decide) (fun hc78 => absurd hc78 (by decide)) (fun hc78 => ?_)
      refine r_aload_n hG dX2_search_81 rfl ?_
      refine r_iload hG dX2_search_82 rfl ?_
      refine r_iload_n hG dX2_search_84 rfl ?_
      refine r_iload_n hG dX2_search_85 rfl ?_
      refine r_iload_n hG dX2_search_86 rfl ?_
      refine r_cVV4 hG mk_X2_95 dX2_search_87 rfl (by decide) (ct_X2_tryTrip (M := (setS M (itr (fT M sp T n k p d m (M.1 24) (M.1 27)) t s0))) (by exact hR) (by rw [setS_n (by omega)]; exact hT) lT (by rw [setS_n (by omega)]; exact hn) ln (fun t9 h9 => by rw [setS_n (by omega)]; exact hsp t9 h9) hS (t := t) (p := p) (by omega) hp d m) (by omega) ⟨Nat.le_refl _, Nat.le_refl _⟩ (Nat.le_of_ble_eq_true rfl) (fun M9 h9 => ?_)
      have e87 : M9 = setS M (srch M sp T n k (p + 1) d (m + M.1 (p + 32) t) (upd (M.1 24) (sp t) (M.1 24 (sp t) - pLoad M sp (M.1 24) t p)) (upd (M.1 27) t (M.1 27 t - M.1 (p + 32) t)) (upd (itr (fT M sp T n k p d m (M.1 24) (M.1 27)) t s0).1 p (nI t), (itr (fT M sp T n k p d m (M.1 24) (M.1 27)) t s0).2)) := by
        rw [h9, setS_set, srch_congr pSt_set _ _ _ _ _ _ _ (by omega), setS24, setS27, pLoad_congr pSt_set, setS_n (by omega)]
        rfl
      rw [e87]
      refine r_iinc hG (1) dX2_search_90 (by decide) rfl ?_
      refine r_loc [some (.ref 23), some (.int (nI p)), some (.int d), some (.int m), some (.int x4), some (.int ((nI t) + (1)))] rfl ?_
      refine r_goto hG 62 dX2_search_93 (by decide) ?_
      rw [nI_1]
      refine r_mem _ ?_ (ih (t + 1) (by omega) hP)
      show _ = setS M (fT M sp T n k p d m (M.1 24) (M.1 27) t (itr (fT M sp T n k p d m (M.1 24) (M.1 27)) t s0))
      unfold fT
      rw [if_pos hw75]
    · rw [e8]
      refine r_if_eq hG 90 dX2_search_78 (by decide) (fun hc78 => ?_) (fun hc78 => absurd hc78 (by decide))
      refine r_iinc hG (1) dX2_search_90 (by decide) rfl ?_
      refine r_loc [some (.ref 23), some (.int (nI p)), some (.int d), some (.int m), some (.int x4), some (.int ((nI t) + (1)))] rfl ?_
      refine r_goto hG 62 dX2_search_93 (by decide) ?_
      rw [nI_1]
      refine r_mem _ ?_ (ih (t + 1) (by omega) hP)
      show _ = setS M (fT M sp T n k p d m (M.1 24) (M.1 27) t (itr (fT M sp T n k p d m (M.1 24) (M.1 27)) t s0))
      unfold fT
      rw [if_neg hw75]

set_option maxRecDepth 100000 in
set_option maxHeartbeats 400000 in
theorem ct_X2_search0 {M : gM} {b : Bool} (hR : M.2.2 = stdR b) {T n : Nat} {sp : Nat → Nat} (hT : M.1 23 12 = nI T) (lT : T ≤ 4) (hn : M.1 23 14 = nI n) (ln : n ≤ 6) (hsp : ∀ t, t < T → M.1 25 t = nI (sp t) ∧ sp t < 4) (p : Nat) (d m : Int32) (hp : p = n) : gC 3 0 0 yX2_search cX2_search 6 none 140 140 [.ref 23, .int (nI p), .int d, .int m] M (gV (fun M9 => M9 = setS M (srch M sp T n 0 p d m (M.1 24) (M.1 27) (getS M)))) := by
  refine gC_v rfl (Nat.le_of_ble_eq_true rfl) (fun G hG hE => ?_)
  change G (140, 0, 0) 0 [some (.ref 23), some (.int (nI p)), some (.int d), some (.int m), none, none] [] M
  refine r_iload_n hG dX2_search_0 rfl ?_
  refine r_aload_n hG dX2_search_1 rfl ?_
  refine r_getR hG 10 40 fk_X2_44 dX2_search_2 rfl (by decide) rfl (sr hR rfl) ?_
  refine r_iload_n hG dX2_search_5 rfl ?_
  refine r_iald hG p dX2_search_6 rfl (by decide) rfl (by omega) (by decide) ?_
  refine r_iadd hG dX2_search_7 ?_
  refine r_istore hG dX2_search_8 (by decide) ?_
  refine r_loc [some (.ref 23), some (.int (nI p)), some (.int d), some (.int m), some (.int (d + (M.1 40 p))), none] rfl ?_
  refine r_iload hG dX2_search_10 rfl ?_
  refine r_aload_n hG dX2_search_12 rfl ?_
  refine r_getI hG 15 fk_X2_68 dX2_search_13 rfl (by decide) rfl ?_
  refine r_icmp_gt hG 43 dX2_search_16 (by decide) (fun hc16 => ?_) (fun hc16 => ?_)
  · refine hE _ _ _ _ dX2_search_43 rfl (Nat.le_refl _) (Nat.le_refl _) ?_
    show M = setS M _
    rw [srch_prune (M := M) (s := getS M) (p := p) (d := d) (m := m) (Or.inl hc16)]
    exact setS_get.symm
  · refine r_iload hG dX2_search_19 rfl ?_
    refine r_aload_n hG dX2_search_21 rfl ?_
    refine r_getI hG 15 fk_X2_68 dX2_search_22 rfl (by decide) rfl ?_
    refine r_icmp_ne hG 44 dX2_search_25 (by decide) (fun hc25 => ?_) (fun hc25 => ?_)
    · refine r_iload_n hG dX2_search_44 rfl ?_
      refine r_aload_n hG dX2_search_45 rfl ?_
      refine r_getIv hG 14 (nI n) fk_X2_57 dX2_search_46 rfl (by decide) rfl hn ?_
      refine r_icmp_lt hG 59 dX2_search_49 (by decide) (fun hc49 => absurd (nlt_t (a := p) (b := n) (by omega) (by omega) hc49) (by omega)) (fun hc49 => ?_)
      refine r_aload_n hG dX2_search_52 rfl ?_
      refine r_iload_n hG dX2_search_53 rfl ?_
      refine r_iload_n hG dX2_search_54 rfl ?_
      refine r_cVV2 hG mk_X2_91 dX2_search_55 rfl (by decide) (ct_X2_keep hR hT lT hn ln hsp d m) (by decide) ⟨Nat.le_refl _, Nat.le_refl _⟩ (Nat.le_of_ble_eq_true rfl) (fun M9 h9 => ?_)
      rw [h9]
      refine hE _ _ _ _ dX2_search_58 rfl (Nat.le_refl _) (Nat.le_refl _) ?_
      show setS M _ = setS M _
      rw [srch_0 (M := M) (s := getS M) (p := p) (d := d) (m := m) (fun q => q.elim hc16 (fun z => hc25 z.1))]
      rfl
    · refine r_iload_n hG dX2_search_28 rfl ?_
      refine r_aload_n hG dX2_search_29 rfl ?_
      refine r_getR hG 11 41 fk_X2_47 dX2_search_30 rfl (by decide) rfl (sr hR rfl) ?_
      refine r_iload_n hG dX2_search_33 rfl ?_
      refine r_iald hG p dX2_search_34 rfl (by decide) rfl (by omega) (by decide) ?_
      refine r_iadd hG dX2_search_35 ?_
      refine r_aload_n hG dX2_search_36 rfl ?_
      refine r_getI hG 16 fk_X2_71 dX2_search_37 rfl (by decide) rfl ?_
      refine r_icmp_lt hG 44 dX2_search_40 (by decide) (fun hc40 => ?_) (fun hc40 => ?_)
      · refine r_iload_n hG dX2_search_44 rfl ?_
        refine r_aload_n hG dX2_search_45 rfl ?_
        refine r_getIv hG 14 (nI n) fk_X2_57 dX2_search_46 rfl (by decide) rfl hn ?_
        refine r_icmp_lt hG 59 dX2_search_49 (by decide) (fun hc49 => absurd (nlt_t (a := p) (b := n) (by omega) (by omega) hc49) (by omega)) (fun hc49 => ?_)
        refine r_aload_n hG dX2_search_52 rfl ?_
        refine r_iload_n hG dX2_search_53 rfl ?_
        refine r_iload_n hG dX2_search_54 rfl ?_
        refine r_cVV2 hG mk_X2_91 dX2_search_55 rfl (by decide) (ct_X2_keep hR hT lT hn ln hsp d m) (by decide) ⟨Nat.le_refl _, Nat.le_refl _⟩ (Nat.le_of_ble_eq_true rfl) (fun M9 h9 => ?_)
        rw [h9]
        refine hE _ _ _ _ dX2_search_58 rfl (Nat.le_refl _) (Nat.le_refl _) ?_
        show setS M _ = setS M _
        rw [srch_0 (M := M) (s := getS M) (p := p) (d := d) (m := m) (fun q => q.elim hc16 (fun z => z.2 hc40))]
        rfl
      · refine hE _ _ _ _ dX2_search_43 rfl (Nat.le_refl _) (Nat.le_refl _) ?_
        show M = setS M _
        rw [srch_prune (M := M) (s := getS M) (p := p) (d := d) (m := m) (Or.inr ⟨hc25, hc40⟩)]
        exact setS_get.symm

set_option maxRecDepth 100000 in
set_option maxHeartbeats 400000 in
theorem ct_X2_search1 {M : gM} {b : Bool} (hR : M.2.2 = stdR b) {T n : Nat} {sp : Nat → Nat} (hT : M.1 23 12 = nI T) (lT : T ≤ 4) (hn : M.1 23 14 = nI n) (ln : n ≤ 6) (hsp : ∀ t, t < T → M.1 25 t = nI (sp t) ∧ sp t < 4) {k : Nat} (hS : cSearch k) (p : Nat) (d m : Int32) (hp : p + (k + 1) = n) : gC (3 + 2 * (k + 1)) 0 0 yX2_search cX2_search 6 none 140 140 [.ref 23, .int (nI p), .int d, .int m] M (gV (fun M9 => M9 = setS M (srch M sp T n (k + 1) p d m (M.1 24) (M.1 27) (getS M)))) := by
  refine gC_v rfl (Nat.le_of_ble_eq_true rfl) (fun G hG hE => ?_)
  change G (140, 0, 0) 0 [some (.ref 23), some (.int (nI p)), some (.int d), some (.int m), none, none] [] M
  refine r_iload_n hG dX2_search_0 rfl ?_
  refine r_aload_n hG dX2_search_1 rfl ?_
  refine r_getR hG 10 40 fk_X2_44 dX2_search_2 rfl (by decide) rfl (sr hR rfl) ?_
  refine r_iload_n hG dX2_search_5 rfl ?_
  refine r_iald hG p dX2_search_6 rfl (by decide) rfl (by omega) (by decide) ?_
  refine r_iadd hG dX2_search_7 ?_
  refine r_istore hG dX2_search_8 (by decide) ?_
  refine r_loc [some (.ref 23), some (.int (nI p)), some (.int d), some (.int m), some (.int (d + (M.1 40 p))), none] rfl ?_
  refine r_iload hG dX2_search_10 rfl ?_
  refine r_aload_n hG dX2_search_12 rfl ?_
  refine r_getI hG 15 fk_X2_68 dX2_search_13 rfl (by decide) rfl ?_
  refine r_icmp_gt hG 43 dX2_search_16 (by decide) (fun hc16 => ?_) (fun hc16 => ?_)
  · refine hE _ _ _ _ dX2_search_43 rfl (Nat.le_refl _) (Nat.le_refl _) ?_
    show M = setS M _
    rw [srch_prune (M := M) (s := getS M) (p := p) (d := d) (m := m) (Or.inl hc16)]
    exact setS_get.symm
  · refine r_iload hG dX2_search_19 rfl ?_
    refine r_aload_n hG dX2_search_21 rfl ?_
    refine r_getI hG 15 fk_X2_68 dX2_search_22 rfl (by decide) rfl ?_
    refine r_icmp_ne hG 44 dX2_search_25 (by decide) (fun hc25 => ?_) (fun hc25 => ?_)
    · refine r_iload_n hG dX2_search_44 rfl ?_
      refine r_aload_n hG dX2_search_45 rfl ?_
      refine r_getIv hG 14 (nI n) fk_X2_57 dX2_search_46 rfl (by decide) rfl hn ?_
      refine r_icmp_lt hG 59 dX2_search_49 (by decide) (fun hc49 => ?_) (fun hc49 => absurd (nlt_f (a := p) (b := n) (by omega) (by omega) hc49) (by omega))
      refine r_iconst hG (0) dX2_search_59 (by decide) ?_
      refine r_istore hG dX2_search_60 (by decide) ?_
      refine r_loc [some (.ref 23), some (.int (nI p)), some (.int d), some (.int m), some (.int (d + (M.1 40 p))), some (.int (0))] rfl ?_
      refine r_mem (setS M (itr (fT M sp T n k p d m (M.1 24) (M.1 27)) 0 (getS M))) setS_get.symm ?_
      refine lp_X2_search hG hE hR hT lT hn ln hsp hS (by omega) d m (getS M) _ T 0 (by omega) ?_
      show setS M _ = setS M _
      rw [srch_s (M := M) (s := getS M) (p := p) (d := d) (m := m) (fun q => q.elim hc16 (fun z => hc25 z.1))]
    · refine r_iload_n hG dX2_search_28 rfl ?_
      refine r_aload_n hG dX2_search_29 rfl ?_
      refine r_getR hG 11 41 fk_X2_47 dX2_search_30 rfl (by decide) rfl (sr hR rfl) ?_
      refine r_iload_n hG dX2_search_33 rfl ?_
      refine r_iald hG p dX2_search_34 rfl (by decide) rfl (by omega) (by decide) ?_
      refine r_iadd hG dX2_search_35 ?_
      refine r_aload_n hG dX2_search_36 rfl ?_
      refine r_getI hG 16 fk_X2_71 dX2_search_37 rfl (by decide) rfl ?_
      refine r_icmp_lt hG 44 dX2_search_40 (by decide) (fun hc40 => ?_) (fun hc40 => ?_)
      · refine r_iload_n hG dX2_search_44 rfl ?_
        refine r_aload_n hG dX2_search_45 rfl ?_
        refine r_getIv hG 14 (nI n) fk_X2_57 dX2_search_46 rfl (by decide) rfl hn ?_
        refine r_icmp_lt hG 59 dX2_search_49 (by decide) (fun hc49 => ?_) (fun hc49 => absurd (nlt_f (a := p) (b := n) (by omega) (by omega) hc49) (by omega))
        refine r_iconst hG (0) dX2_search_59 (by decide) ?_
        refine r_istore hG dX2_search_60 (by decide) ?_
        refine r_loc [some (.ref 23), some (.int (nI p)), some (.int d), some (.int m), some (.int (d + (M.1 40 p))), some (.int (0))] rfl ?_
        refine r_mem (setS M (itr (fT M sp T n k p d m (M.1 24) (M.1 27)) 0 (getS M))) setS_get.symm ?_
        refine lp_X2_search hG hE hR hT lT hn ln hsp hS (by omega) d m (getS M) _ T 0 (by omega) ?_
        show setS M _ = setS M _
        rw [srch_s (M := M) (s := getS M) (p := p) (d := d) (m := m) (fun q => q.elim hc16 (fun z => z.2 hc40))]
      · refine hE _ _ _ _ dX2_search_43 rfl (Nat.le_refl _) (Nat.le_refl _) ?_
        show M = setS M _
        rw [srch_prune (M := M) (s := getS M) (p := p) (d := d) (m := m) (Or.inr ⟨hc25, hc40⟩)]
        exact setS_get.symm

theorem ct_search : ∀ k, cSearch k
  | 0 => fun hR _ _ _ hT lT hn ln hsp p d m hp => ct_X2_search0 hR hT lT hn ln hsp p d m hp
  | k + 1 => fun hR _ _ _ hT lT hn ln hsp p d m hp => ct_X2_search1 hR hT lT hn ln hsp (ct_search k) p d m hp

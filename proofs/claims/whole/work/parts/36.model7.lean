/-- the village at place k -/
def whoN (lk : Nat → Int32) : Nat → Nat → Nat
  | 0, _ => 0
  | i + 1, k => if 0 < lk i ∧ ndc lk i = k then i else whoN lk i k
theorem whoN_at (lk : Nat → Int32) : ∀ (n k : Nat), k < ndc lk n → whoN lk n k < n ∧ 0 < lk (whoN lk n k) ∧ ndc lk (whoN lk n k) = k
  | 0, k, h => absurd h (Nat.not_lt_zero k)
  | i + 1, k, h => by
    unfold whoN
    by_cases e : 0 < lk i ∧ ndc lk i = k
    · rw [if_pos e]; exact ⟨by omega, e.1, e.2⟩
    · rw [if_neg e]
      rw [ndc_s] at h
      have h2 : k < ndc lk i := by
        by_cases l : 0 < lk i
        · rw [if_pos l] at h
          have : ndc lk i ≠ k := fun q => e ⟨l, q⟩
          omega
        · rw [if_neg l] at h
          omega
      obtain ⟨a, b, c⟩ := whoN_at lk i k h2
      exact ⟨by omega, b, c⟩
/-- the digit of plan m at place k -/
def sg (nt c m k : Nat) : Nat := m / (nt + 1) ^ (c - 1 - k) % (nt + 1)
theorem sg_le (nt c m k : Nat) : sg nt c m k ≤ nt := Nat.le_of_lt_succ (Nat.mod_lt _ (Nat.succ_pos nt))
theorem sg_div {nt c m j : Nat} (h : j < c) : m / (nt + 1) ^ (c - (j + 1)) / (nt + 1) = m / (nt + 1) ^ (c - j) := by
  rw [Nat.div_div_eq_div_mul, ← Nat.pow_succ]
  congr 2
  omega
theorem pow56 {nt c : Nat} (lt : nt ≤ 4) (lc : c ≤ 6) : (nt + 1) ^ c ≤ 15625 :=
  Nat.le_trans (Nat.pow_le_pow_left (show nt + 1 ≤ 5 by omega) c) (Nat.le_trans (Nat.pow_le_pow_right (by decide) lc) (by decide))
/-- the best of the plans before m: dry, miles, tankers -/
def mBst (D Ms : Nat → Int32) (se : Nat → Nat → Nat) (z : Int32 × (Nat → Int32)) : Nat → Int32 × Int32 × (Nat → Int32)
  | 0 => (-1, z)
  | m + 1 => if ¬ D m < 0 ∧ ((mBst D Ms se z m).1 < 0 ∨ D m < (mBst D Ms se z m).1 ∨ (D m = (mBst D Ms se z m).1 ∧ Ms m < (mBst D Ms se z m).2.1)) then (D m, Ms m, fun k => nI (se m k)) else mBst D Ms se z m
def Sb (k j : Nat) : Prop := k = 128 ∨ k = 129 ∨ k = 130 ∨ k = 131 ∨ (k = 88 ∧ (j = 57 ∨ j = 58))
def bD (M : gM) (wv sp : Nat → Nat) (nt c m : Nat) : Int32 := mtry M wv sp nt (sg nt c m) c 0 (M.1 121) (M.1 117) 0
def bMs (M : gM) (wv sp : Nat → Nat) (nt c m : Nat) : Int32 := msum M wv sp nt (sg nt c m) c
/-- M holds the best of the plans before m, of the needy in M0 -/
def bstR (M0 M : gM) (wv sp : Nat → Nat) (nt c m : Nat) : Prop :=
  gEq Sb M0 M ∧ M.1 88 57 = (mBst (bD M0 wv sp nt c) (bMs M0 wv sp nt c) (sg nt c) (M0.1 88 58, M0.1 129) m).1 ∧ M.1 88 58 = (mBst (bD M0 wv sp nt c) (bMs M0 wv sp nt c) (sg nt c) (M0.1 88 58, M0.1 129) m).2.1 ∧ ∀ k, k < c → M.1 129 k = (mBst (bD M0 wv sp nt c) (bMs M0 wv sp nt c) (sg nt c) (M0.1 88 58, M0.1 129) m).2.2 k
theorem mtry_m {M M' : gM} {wv sp : Nat → Nat} {nt : Nat} {se : Nat → Nat} (h : ∀ k j, k = 107 ∨ k = 108 ∨ k = 120 ∨ k = 125 ∨ k = 127 → M'.1 k j = M.1 k j) : ∀ n k (ml pl : Nat → Int32) (dry : Int32), mtry M' wv sp nt se n k ml pl dry = mtry M wv sp nt se n k ml pl dry := by
  intro n
  induction n with
  | zero => intro k ml pl dry; rfl
  | succ n ih =>
    intro k ml pl dry
    unfold mtry
    rw [h 107 _ (by omega), h 108 _ (by omega), h 120 _ (by omega), h 125 _ (by omega), h 127 _ (by omega)]
    simp only [ih]
theorem msum_m {M M' : gM} {wv sp : Nat → Nat} {nt : Nat} {se : Nat → Nat} (h : ∀ j, M'.1 125 j = M.1 125 j) (c : Nat) : msum M' wv sp nt se c = msum M wv sp nt se c := by
  unfold msum
  congr 1
  funext k
  rw [h]
theorem nI_mulp {a b : Nat} : nI a * (nI b + 1) = nI (a * (b + 1)) := by rw [nI_1, pk_mul]
theorem bst_n {D Ms : Nat → Int32} {se : Nat → Nat → Nat} {z : Int32 × (Nat → Int32)} {m : Nat} (h : ¬ (¬ D m < 0 ∧ ((mBst D Ms se z m).1 < 0 ∨ D m < (mBst D Ms se z m).1 ∨ (D m = (mBst D Ms se z m).1 ∧ Ms m < (mBst D Ms se z m).2.1)))) : mBst D Ms se z (m + 1) = mBst D Ms se z m := by
  show (if _ then _ else _) = _
  rw [if_neg h]
theorem bst_y {D Ms : Nat → Int32} {se : Nat → Nat → Nat} {z : Int32 × (Nat → Int32)} {m : Nat} (h : ¬ D m < 0 ∧ ((mBst D Ms se z m).1 < 0 ∨ D m < (mBst D Ms se z m).1 ∨ (D m = (mBst D Ms se z m).1 ∧ Ms m < (mBst D Ms se z m).2.1))) : mBst D Ms se z (m + 1) = (D m, Ms m, fun k => nI (se m k)) := by
  show (if _ then _ else _) = _
  rw [if_pos h]
set_option maxRecDepth 100000 in
set_option maxHeartbeats 400000 in
theorem lp_X9_findPlan1  {G : gJ} {P : gM → Prop} (hG : gS 4 0 0 yX9_findPlan.cls cX9_findPlan 8 G) (hE : gEv 140 0 0 cX9_findPlan P G) {M0 : gM} {b : Bool} (hR0 : M0.2.2 = stdR b) {ns nt c : Nat} (hns0 : M0.1 88 38 = nI ns) (ls : ns ≤ 4) (hnt0 : M0.1 88 43 = nI nt) (lt : nt ≤ 4) (hc0 : M0.1 88 52 = nI c) (lc : c ≤ 6) {wv sp : Nat → Nat} (hwv0 : ∀ k, k < c → M0.1 126 k = nI (wv k) ∧ wv k < 12) (hsp0 : ∀ t, t < nt → M0.1 119 t = nI (sp t) ∧ sp t < 4) (hsn : ∀ t, t < nt → sp t < ns) {dy : Int32} :
    ∀ (r k : Nat), k + r = c → G (140, 0, 0) 32 [some (.ref 88), some (.int dy), some (.int (nI ((nt + 1) ^ c))), some (.int (nI c)), none, none, none, none] [] M0 → G (140, 0, 0) 9 [some (.ref 88), some (.int dy), some (.int (nI ((nt + 1) ^ k))), some (.int (nI k)), none, none, none, none] [] M0 := by
  intro r
  induction r with
  | zero =>
    intro k hk hK
    refine r_iload_n hG dX9_findPlan_9 rfl ?_
    refine r_aload_n hG dX9_findPlan_10 rfl ?_
    refine r_getIv hG 52 (nI c) fk_X9_322 dX9_findPlan_11 rfl (by decide) rfl hc0 ?_
    refine r_icmp_ge hG 32 dX9_findPlan_14 (by decide) (fun hc14 => ?_) (fun hc14 => absurd (nle_f (a := c) (b := k) (by omega) (by omega) hc14) (by omega))
    have e : k = c := by omega
    rw [e]
    exact hK
  | succ r ih =>
    intro k hk hK
    refine r_iload_n hG dX9_findPlan_9 rfl ?_
    refine r_aload_n hG dX9_findPlan_10 rfl ?_
    refine r_getIv hG 52 (nI c) fk_X9_322 dX9_findPlan_11 rfl (by decide) rfl hc0 ?_
    refine r_icmp_ge hG 32 dX9_findPlan_14 (by decide) (fun hc14 => absurd (nle_t (a := c) (b := k) (by omega) (by omega) hc14) (by omega)) (fun hc14 => ?_)
    refine r_iload_n hG dX9_findPlan_17 rfl ?_
    refine r_aload_n hG dX9_findPlan_18 rfl ?_
    refine r_getIv hG 43 (nI nt) fk_X9_294 dX9_findPlan_19 rfl (by decide) rfl hnt0 ?_
    refine r_iconst hG (1) dX9_findPlan_22 (by decide) ?_
    refine r_iadd hG dX9_findPlan_23 ?_
    refine r_imul hG dX9_findPlan_24 ?_
    refine r_top (nI ((nt + 1) ^ (k + 1))) (by rw [nI_mulp, Nat.pow_succ]) ?_
    refine r_istore_n hG dX9_findPlan_25 (by decide) ?_
    refine r_loc [some (.ref 88), some (.int dy), some (.int (nI ((nt + 1) ^ (k + 1)))), some (.int (nI k)), none, none, none, none] rfl ?_
    refine r_iinc hG (1) dX9_findPlan_26 (by decide) rfl ?_
    refine r_loc [some (.ref 88), some (.int dy), some (.int (nI ((nt + 1) ^ (k + 1)))), some (.int ((nI k) + (1))), none, none, none, none] rfl ?_
    refine r_goto hG 9 dX9_findPlan_29 (by decide) ?_
    rw [nI_1]
    exact ih (k + 1) (by omega) hK

theorem neq_z (n : Nat) (h : 0 < n) (h1 : n < 1000000) : ¬ nI n = 0 := fun q => by
  have := neq_t (a := n) (b := 0) (by omega) (by omega) q
  omega
set_option maxRecDepth 100000 in
set_option maxHeartbeats 400000 in
theorem lp_X9_findPlan2  {G : gJ} {P : gM → Prop} (hG : gS 4 0 0 yX9_findPlan.cls cX9_findPlan 8 G) (hE : gEv 140 0 0 cX9_findPlan P G) {M0 : gM} {b : Bool} (hR0 : M0.2.2 = stdR b) {ns nt c : Nat} (hns0 : M0.1 88 38 = nI ns) (ls : ns ≤ 4) (hnt0 : M0.1 88 43 = nI nt) (lt : nt ≤ 4) (hc0 : M0.1 88 52 = nI c) (lc : c ≤ 6) {wv sp : Nat → Nat} (hwv0 : ∀ k, k < c → M0.1 126 k = nI (wv k) ∧ wv k < 12) (hsp0 : ∀ t, t < nt → M0.1 119 t = nI (sp t) ∧ sp t < 4) (hsn : ∀ t, t < nt → sp t < ns) {M1 : gM} (hq1 : gEq Sb M0 M1) {dy : Int32} {A9 m : Nat} (hm : m < 15625) {x6 x7 : Option Value} :
    ∀ (j : Nat) (M : gM) (x : Int32), j ≤ c → gEq (fun k _ => k = 128) M1 M → (∀ k, j ≤ k → k < c → M.1 128 k = nI (sg nt c m k)) → x = nI j - 1 → (∀ M9 l y, gEq (fun k _ => k = 128) M1 M9 → (∀ k, k < c → M9.1 128 k = nI (sg nt c m k)) → G (140, 0, 0) 93 [some (.ref 88), some (.int dy), some (.int (nI A9)), some (.int (nI m)), some (.int l), some (.int y), x6, x7] [] M9) → G (140, 0, 0) 55 [some (.ref 88), some (.int dy), some (.int (nI A9)), some (.int (nI m)), some (.int (nI (m / (nt + 1) ^ (c - j)))), some (.int x), x6, x7] [] M := by
  intro j
  induction j with
  | zero =>
    intro M x hj hq hv hx hK
    have hR : M.2.2 = stdR b := by rw [hq.1, hq1.1]; exact hR0
    have hnt : M.1 88 43 = nI nt := (hq.2 88 43 (by omega)).trans ((hq1.2 88 43 (by unfold Sb; omega)).trans hnt0)
    refine r_iload hG dX9_findPlan_55 rfl ?_
    refine r_if_lt hG 93 dX9_findPlan_57 (by decide) (fun hc57 => ?_) (fun hc57 => absurd (show x < 0 by rw [hx]; decide) hc57)
    exact hK M _ _ hq (fun k hk => hv k (by omega) hk)
  | succ j ih =>
    intro M x hj hq hv hx hK
    have hR : M.2.2 = stdR b := by rw [hq.1, hq1.1]; exact hR0
    have hnt : M.1 88 43 = nI nt := (hq.2 88 43 (by omega)).trans ((hq1.2 88 43 (by unfold Sb; omega)).trans hnt0)
    obtain rfl : x = nI j := by rw [hx, nI_pred]
    have hle : (m / (nt + 1) ^ (c - (j + 1))) ≤ m := Nat.div_le_self _ _
    refine r_iload hG dX9_findPlan_55 rfl ?_
    refine r_if_lt hG 93 dX9_findPlan_57 (by decide) (fun hc57 => absurd hc57 (nI_pos (by omega))) (fun hc57 => ?_)
    refine r_aload_n hG dX9_findPlan_60 rfl ?_
    refine r_getR hG 55 128 fk_X9_160 dX9_findPlan_61 rfl (by decide) rfl (sr hR rfl) ?_
    refine r_iload hG dX9_findPlan_64 rfl ?_
    refine r_iload hG dX9_findPlan_66 rfl ?_
    refine r_aload_n hG dX9_findPlan_68 rfl ?_
    refine r_getIv hG 43 (nI nt) fk_X9_294 dX9_findPlan_69 rfl (by decide) rfl hnt ?_
    refine r_iconst hG (1) dX9_findPlan_72 (by decide) ?_
    refine r_iadd hG dX9_findPlan_73 ?_
    refine r_top (nI (nt + 1)) (nI_1 nt) ?_
    refine r_irem hG dX9_findPlan_74 (by have := neq_z (nt + 1) (by omega) (by omega); exact this) ?_
    refine r_top (nI (sg nt c m j)) ((pk_rem (by omega) (by omega) (by omega)).trans (by unfold sg; rw [show c - (j + 1) = c - 1 - j by omega])) ?_
    refine r_iast hG j dX9_findPlan_75 rfl (by decide) rfl (by omega) (by decide) ?_
    refine r_iload hG dX9_findPlan_76 rfl ?_
    refine r_aload_n hG dX9_findPlan_78 rfl ?_
    refine r_getIv hG 43 (nI nt) fk_X9_294 dX9_findPlan_79 rfl (by decide) rfl ((gwI_n (by omega)).trans hnt) ?_
    refine r_iconst hG (1) dX9_findPlan_82 (by decide) ?_
    refine r_iadd hG dX9_findPlan_83 ?_
    refine r_top (nI (nt + 1)) (nI_1 nt) ?_
    refine r_idiv hG dX9_findPlan_84 (by have := neq_z (nt + 1) (by omega) (by omega); exact this) ?_
    refine r_top (nI (m / (nt + 1) ^ (c - j))) ((pk_div (by omega) (by omega) (by omega)).trans (by rw [sg_div (by omega)])) ?_
    refine r_istore hG dX9_findPlan_85 (by decide) ?_
    refine r_loc [some (.ref 88), some (.int dy), some (.int (nI A9)), some (.int (nI m)), some (.int (nI (m / (nt + 1) ^ (c - j)))), some (.int (nI j)), x6, x7] rfl ?_
    refine r_iinc hG (-1) dX9_findPlan_87 (by decide) rfl ?_
    refine r_loc [some (.ref 88), some (.int dy), some (.int (nI A9)), some (.int (nI m)), some (.int (nI (m / (nt + 1) ^ (c - j)))), some (.int ((nI j) + (-1))), x6, x7] rfl ?_
    refine r_goto hG 55 dX9_findPlan_90 (by decide) ?_
    refine ih _ _ (by omega) (hq.put rfl) (fun k h1 h2 => ?_) (addm1 _) hK
    by_cases e : k = j
    · subst e; exact gwI_s
    · rw [gwI_n (by omega)]; exact hv k (by omega) h2

set_option maxRecDepth 100000 in
set_option maxHeartbeats 400000 in
theorem lp_X9_findPlan4  {G : gJ} {P : gM → Prop} (hG : gS 4 0 0 yX9_findPlan.cls cX9_findPlan 8 G) (hE : gEv 140 0 0 cX9_findPlan P G) {M0 : gM} {b : Bool} (hR0 : M0.2.2 = stdR b) {ns nt c : Nat} (hns0 : M0.1 88 38 = nI ns) (ls : ns ≤ 4) (hnt0 : M0.1 88 43 = nI nt) (lt : nt ≤ 4) (hc0 : M0.1 88 52 = nI c) (lc : c ≤ 6) {wv sp : Nat → Nat} (hwv0 : ∀ k, k < c → M0.1 126 k = nI (wv k) ∧ wv k < 12) (hsp0 : ∀ t, t < nt → M0.1 119 t = nI (sp t) ∧ sp t < 4) (hsn : ∀ t, t < nt → sp t < ns) {M1 : gM} (hq1 : gEq Sb M0 M1) {se : Nat → Nat} (hse : ∀ k, k < c → M1.1 128 k = nI (se k)) {dy l y y6 : Int32} {A9 m : Nat} :
    ∀ (r i : Nat) (M : gM), i + r = c → gEq (fun k _ => k = 129) M1 M → (∀ k, k < i → M.1 129 k = nI (se k)) → (∀ M9, gEq (fun k _ => k = 129) M1 M9 → (∀ k, k < c → M9.1 129 k = nI (se k)) → G (140, 0, 0) 197 [some (.ref 88), some (.int dy), some (.int (nI A9)), some (.int (nI m)), some (.int l), some (.int y), some (.int y6), some (.int (nI c))] [] M9) → G (140, 0, 0) 168 [some (.ref 88), some (.int dy), some (.int (nI A9)), some (.int (nI m)), some (.int l), some (.int y), some (.int y6), some (.int (nI i))] [] M := by
  intro r
  induction r with
  | zero =>
    intro i M hi hq hv hK
    have hR : M.2.2 = stdR b := by rw [hq.1, hq1.1]; exact hR0
    have hcn : M.1 88 52 = nI c := (hq.2 88 52 (by omega)).trans ((hq1.2 88 52 (by unfold Sb; omega)).trans hc0)
    refine r_iload hG dX9_findPlan_168 rfl ?_
    refine r_aload_n hG dX9_findPlan_170 rfl ?_
    refine r_getIv hG 52 (nI c) fk_X9_322 dX9_findPlan_171 rfl (by decide) rfl hcn ?_
    refine r_icmp_ge hG 197 dX9_findPlan_174 (by decide) (fun hc174 => ?_) (fun hc174 => absurd (nle_f (a := c) (b := i) (by omega) (by omega) hc174) (by omega))
    have e : i = c := by omega
    subst e
    exact hK M hq hv
  | succ r ih =>
    intro i M hi hq hv hK
    have hR : M.2.2 = stdR b := by rw [hq.1, hq1.1]; exact hR0
    have hcn : M.1 88 52 = nI c := (hq.2 88 52 (by omega)).trans ((hq1.2 88 52 (by unfold Sb; omega)).trans hc0)
    refine r_iload hG dX9_findPlan_168 rfl ?_
    refine r_aload_n hG dX9_findPlan_170 rfl ?_
    refine r_getIv hG 52 (nI c) fk_X9_322 dX9_findPlan_171 rfl (by decide) rfl hcn ?_
    refine r_icmp_ge hG 197 dX9_findPlan_174 (by decide) (fun hc174 => absurd (nle_t (a := c) (b := i) (by omega) (by omega) hc174) (by omega)) (fun hc174 => ?_)
    refine r_aload_n hG dX9_findPlan_177 rfl ?_
    refine r_getR hG 56 129 fk_X9_163 dX9_findPlan_178 rfl (by decide) rfl (sr hR rfl) ?_
    refine r_iload hG dX9_findPlan_181 rfl ?_
    refine r_aload_n hG dX9_findPlan_183 rfl ?_
    refine r_getR hG 55 128 fk_X9_160 dX9_findPlan_184 rfl (by decide) rfl (sr hR rfl) ?_
    refine r_iload hG dX9_findPlan_187 rfl ?_
    refine r_ialdv hG i (nI (se i)) dX9_findPlan_189 rfl (by decide) rfl (by omega) (by decide) ((hq.2 128 i (by omega)).trans (hse i (by omega))) ?_
    refine r_iast hG i dX9_findPlan_190 rfl (by decide) rfl (by omega) (by decide) ?_
    refine r_iinc hG (1) dX9_findPlan_191 (by decide) rfl ?_
    refine r_loc [some (.ref 88), some (.int dy), some (.int (nI A9)), some (.int (nI m)), some (.int l), some (.int y), some (.int y6), some (.int ((nI i) + (1)))] rfl ?_
    refine r_goto hG 168 dX9_findPlan_194 (by decide) ?_
    rw [nI_1]
    refine ih (i + 1) _ (by omega) (hq.put rfl) (fun k hk => ?_) hK
    by_cases e : k = i
    · subst e; exact gwI_s
    · rw [gwI_n (by omega)]; exact hv k (by omega)

set_option maxRecDepth 100000 in
set_option maxHeartbeats 400000 in
theorem lp_X9_findPlan3  {G : gJ} {P : gM → Prop} (hG : gS 4 0 0 yX9_findPlan.cls cX9_findPlan 8 G) (hE : gEv 140 0 0 cX9_findPlan P G) {M0 : gM} {b : Bool} (hR0 : M0.2.2 = stdR b) {ns nt c : Nat} (hns0 : M0.1 88 38 = nI ns) (ls : ns ≤ 4) (hnt0 : M0.1 88 43 = nI nt) (lt : nt ≤ 4) (hc0 : M0.1 88 52 = nI c) (lc : c ≤ 6) {wv sp : Nat → Nat} (hwv0 : ∀ k, k < c → M0.1 126 k = nI (wv k) ∧ wv k < 12) (hsp0 : ∀ t, t < nt → M0.1 119 t = nI (sp t) ∧ sp t < 4) (hsn : ∀ t, t < nt → sp t < ns) {dy : Int32} :
    ∀ (r m : Nat) (M : gM) (x4 x5 x6 x7 : Option Value), m + r = (nt + 1) ^ c → bstR M0 M wv sp nt c m → (∀ M9, bstR M0 M9 wv sp nt c ((nt + 1) ^ c) → P M9) → G (140, 0, 0) 39 [some (.ref 88), some (.int dy), some (.int (nI ((nt + 1) ^ c))), some (.int (nI m)), x4, x5, x6, x7] [] M := by
  intro r
  induction r with
  | zero =>
    intro m M x4 x5 x6 x7 hm hb hP
    have hq := hb.1
    have hR : M.2.2 = stdR b := by rw [hq.1]; exact hR0
    have hcn : M.1 88 52 = nI c := (hq.2 88 52 (by unfold Sb; omega)).trans hc0
    have h56 := pow56 lt lc
    refine r_iload_n hG dX9_findPlan_39 rfl ?_
    refine r_iload_n hG dX9_findPlan_40 rfl ?_
    refine r_icmp_ge hG 203 dX9_findPlan_41 (by decide) (fun hc41 => ?_) (fun hc41 => absurd (nle_f (a := ((nt + 1) ^ c)) (b := m) (by omega) (by omega) hc41) (by omega))
    refine hE _ _ _ _ dX9_findPlan_203 rfl (Nat.le_refl _) (Nat.le_refl _) ?_
    have e : m = (nt + 1) ^ c := by omega
    subst e
    exact hP M hb
  | succ r ih =>
    intro m M x4 x5 x6 x7 hm hb hP
    have hq := hb.1
    have hR : M.2.2 = stdR b := by rw [hq.1]; exact hR0
    have hcn : M.1 88 52 = nI c := (hq.2 88 52 (by unfold Sb; omega)).trans hc0
    have h56 := pow56 lt lc
    refine r_iload_n hG dX9_findPlan_39 rfl ?_
    refine r_iload_n hG dX9_findPlan_40 rfl ?_
    refine r_icmp_ge hG 203 dX9_findPlan_41 (by decide) (fun hc41 => absurd (nle_t (a := ((nt + 1) ^ c)) (b := m) (by omega) (by omega) hc41) (by omega)) (fun hc41 => ?_)
    refine r_iload_n hG dX9_findPlan_44 rfl ?_
    refine r_istore hG dX9_findPlan_45 (by decide) ?_
    refine r_loc [some (.ref 88), some (.int dy), some (.int (nI ((nt + 1) ^ c))), some (.int (nI m)), some (.int (nI m)), x5, x6, x7] rfl ?_
    refine r_aload_n hG dX9_findPlan_47 rfl ?_
    refine r_getIv hG 52 (nI c) fk_X9_322 dX9_findPlan_48 rfl (by decide) rfl hcn ?_
    refine r_iconst hG (1) dX9_findPlan_51 (by decide) ?_
    refine r_isub hG dX9_findPlan_52 ?_
    refine r_istore hG dX9_findPlan_53 (by decide) ?_
    refine r_loc [some (.ref 88), some (.int dy), some (.int (nI ((nt + 1) ^ c))), some (.int (nI m)), some (.int (nI m)), some (.int ((nI c) - (1))), x6, x7] rfl ?_
    refine r_loc [some (.ref 88), some (.int dy), some (.int (nI ((nt + 1) ^ c))), some (.int (nI m)), some (.int (nI (m / (nt + 1) ^ (c - c)))), some (.int (nI c - 1)), x6, x7] (by rw [Nat.sub_self, Nat.pow_zero, Nat.div_one]) ?_
    refine lp_X9_findPlan2 hG hE hR0 hns0 ls hnt0 lt hc0 lc hwv0 hsp0 hsn hq (m := m) (by omega) c M _ (Nat.le_refl c) gEq.rf (fun k h1 h2 => absurd h1 (by omega)) rfl (fun M93 l9 y9 h93 h128 => ?_)
    have q93 : gEq Sb M0 M93 := hq.trans (h93.mono (fun k j h => by unfold Sb; omega))
    have hR : M93.2.2 = stdR b := by rw [h93.1]; exact hR
    refine r_aload_n hG dX9_findPlan_93 rfl ?_
    refine r_cVI0 hG mk_X9_334 dX9_findPlan_94 rfl (by decide) (ct_X9_tries (M := M93) (by exact hR) ((q93.2 88 38 (by unfold Sb; omega)).trans hns0) ls ((q93.2 88 43 (by unfold Sb; omega)).trans hnt0) lt ((q93.2 88 52 (by unfold Sb; omega)).trans hc0) lc (fun k hk => ⟨(q93.2 126 k (by unfold Sb; omega)).trans (hwv0 k hk).1, (hwv0 k hk).2⟩) (fun t ht => ⟨(q93.2 119 t (by unfold Sb; omega)).trans (hsp0 t ht).1, (hsp0 t ht).2⟩) (fun k hk => ⟨h128 k hk, sg_le nt c m k⟩) hsn) (by decide) ⟨Nat.le_refl _, Nat.le_refl _⟩ (Nat.le_of_ble_eq_true rfl) (fun x9 M94 h9 => ?_)
    obtain ⟨e8, h94⟩ := h9
    rw [e8, show M93.1 121 = M0.1 121 from funext fun t => (q93.2 121 t (by unfold Sb; omega)), show M93.1 117 = M0.1 117 from funext fun t => (q93.2 117 t (by unfold Sb; omega)), mtry_m (M := M0) (fun k j h => q93.2 k j (by unfold Sb; omega))]
    have hR : M94.2.2 = stdR b := by rw [h94.1]; exact hR
    have q94 : gEq Sb M0 M94 := q93.trans (h94.mono (fun k j h => by unfold Sr at h; unfold Sb; omega))
    have b57 : M94.1 88 57 = (mBst (bD M0 wv sp nt c) (bMs M0 wv sp nt c) (sg nt c) (M0.1 88 58, M0.1 129) m).1 := (h94.2 88 57 (by unfold Sr; omega)).trans ((h93.2 88 57 (by omega)).trans hb.2.1)
    have b58 : M94.1 88 58 = (mBst (bD M0 wv sp nt c) (bMs M0 wv sp nt c) (sg nt c) (M0.1 88 58, M0.1 129) m).2.1 := (h94.2 88 58 (by unfold Sr; omega)).trans ((h93.2 88 58 (by omega)).trans hb.2.2.1)
    have b129 : ∀ k, k < c → M94.1 129 k = (mBst (bD M0 wv sp nt c) (bMs M0 wv sp nt c) (sg nt c) (M0.1 88 58, M0.1 129) m).2.2 k := fun k hk => (h94.2 129 k (by unfold Sr; omega)).trans ((h93.2 129 k (by omega)).trans (hb.2.2.2 k hk))
    refine r_top (bD M0 wv sp nt c m) rfl ?_
    refine r_istore hG dX9_findPlan_97 (by decide) ?_
    refine r_loc [some (.ref 88), some (.int dy), some (.int (nI ((nt + 1) ^ c))), some (.int (nI m)), some (.int l9), some (.int (bD M0 wv sp nt c m)), x6, x7] rfl ?_
    refine r_iload hG dX9_findPlan_99 rfl ?_
    refine r_if_ge hG 108 dX9_findPlan_101 (by decide) (fun hc101 => ?_) (fun hc101 => ?_)
    · refine r_aload_n hG dX9_findPlan_108 rfl ?_
      refine r_cVI0 hG mk_X9_337 dX9_findPlan_109 rfl (by decide) (ct_X9_milesSent (M := M94) (by exact hR) ((q94.2 88 38 (by unfold Sb; omega)).trans hns0) ls ((q94.2 88 43 (by unfold Sb; omega)).trans hnt0) lt ((q94.2 88 52 (by unfold Sb; omega)).trans hc0) lc (fun k hk => ⟨(q94.2 126 k (by unfold Sb; omega)).trans (hwv0 k hk).1, (hwv0 k hk).2⟩) (fun t ht => ⟨(q94.2 119 t (by unfold Sb; omega)).trans (hsp0 t ht).1, (hsp0 t ht).2⟩) (se := sg nt c m) (fun k hk => ⟨(h94.2 128 k (by unfold Sr; omega)).trans (h128 k hk), sg_le nt c m k⟩)) (by decide) ⟨Nat.le_refl _, Nat.le_refl _⟩ (Nat.le_of_ble_eq_true rfl) (fun x9 M9 h9 => ?_)
      obtain ⟨e8, e9⟩ := h9
      rw [e8, e9, msum_m (M := M0) (fun j => q94.2 125 j (by unfold Sb; omega))]
      refine r_top (bMs M0 wv sp nt c m) rfl ?_
      refine r_istore hG dX9_findPlan_112 (by decide) ?_
      refine r_loc [some (.ref 88), some (.int dy), some (.int (nI ((nt + 1) ^ c))), some (.int (nI m)), some (.int l9), some (.int (bD M0 wv sp nt c m)), some (.int (bMs M0 wv sp nt c m)), x7] rfl ?_
      refine r_iload hG dX9_findPlan_114 rfl ?_
      refine r_if_lt hG 197 dX9_findPlan_116 (by decide) (fun hc116 => absurd hc116 (Int32.not_lt.mpr hc101)) (fun hc116 => ?_)
      refine r_aload_n hG dX9_findPlan_119 rfl ?_
      refine r_getIv hG 57 ((mBst (bD M0 wv sp nt c) (bMs M0 wv sp nt c) (sg nt c) (M0.1 88 58, M0.1 129) m).1) fk_X9_331 dX9_findPlan_120 rfl (by decide) rfl b57 ?_
      refine r_if_lt hG 153 dX9_findPlan_123 (by decide) (fun hc123 => ?_) (fun hc123 => ?_)
      · refine r_aload_n hG dX9_findPlan_153 rfl ?_
        refine r_iload hG dX9_findPlan_154 rfl ?_
        refine r_putI hG 57 fp_X9_331 dX9_findPlan_156 rfl (by decide) rfl rfl rfl ?_
        refine r_aload_n hG dX9_findPlan_159 rfl ?_
        refine r_iload hG dX9_findPlan_160 rfl ?_
        refine r_putI hG 58 fp_X9_340 dX9_findPlan_162 rfl (by decide) rfl rfl rfl ?_
        refine r_iconst hG (0) dX9_findPlan_165 (by decide) ?_
        refine r_istore hG dX9_findPlan_166 (by decide) ?_
        refine r_loc [some (.ref 88), some (.int dy), some (.int (nI ((nt + 1) ^ c))), some (.int (nI m)), some (.int l9), some (.int (bD M0 wv sp nt c m)), some (.int (bMs M0 wv sp nt c m)), some (.int (0))] rfl ?_
        have hy : ¬ (bD M0 wv sp nt c m) < 0 ∧ ((mBst (bD M0 wv sp nt c) (bMs M0 wv sp nt c) (sg nt c) (M0.1 88 58, M0.1 129) m).1 < 0 ∨ (bD M0 wv sp nt c m) < (mBst (bD M0 wv sp nt c) (bMs M0 wv sp nt c) (sg nt c) (M0.1 88 58, M0.1 129) m).1 ∨ ((bD M0 wv sp nt c m) = (mBst (bD M0 wv sp nt c) (bMs M0 wv sp nt c) (sg nt c) (M0.1 88 58, M0.1 129) m).1 ∧ (bMs M0 wv sp nt c m) < (mBst (bD M0 wv sp nt c) (bMs M0 wv sp nt c) (sg nt c) (M0.1 88 58, M0.1 129) m).2.1)) := ⟨hc116, Or.inl hc123⟩
        refine lp_X9_findPlan4 hG hE hR0 hns0 ls hnt0 lt hc0 lc hwv0 hsp0 hsn (M1 := gwI (gwI M94 88 57 (bD M0 wv sp nt c m)) 88 58 (bMs M0 wv sp nt c m)) ((q94.put (by unfold Sb; omega)).put (by unfold Sb; omega)) (se := sg nt c m) (fun k hk => (gwI_n (by omega)).trans ((gwI_n (by omega)).trans ((h94.2 128 k (by unfold Sr; omega)).trans (h128 k hk)))) c 0 _ (by omega) gEq.rf (fun k hk => absurd hk (by omega)) (fun M9 g9 v9 => ?_)
        refine r_iinc hG (1) dX9_findPlan_197 (by decide) rfl ?_
        refine r_loc [some (.ref 88), some (.int dy), some (.int (nI ((nt + 1) ^ c))), some (.int ((nI m) + (1))), some (.int l9), some (.int (bD M0 wv sp nt c m)), some (.int (bMs M0 wv sp nt c m)), some (.int (nI c))] rfl ?_
        refine r_goto hG 39 dX9_findPlan_200 (by decide) ?_
        rw [nI_1]
        refine ih (m + 1) M9 _ _ _ _ (by omega) ⟨((q94.put (by unfold Sb; omega)).put (by unfold Sb; omega)).trans (g9.mono (fun k j h => by unfold Sb; omega)), ?_, ?_, ?_⟩ hP
        all_goals rw [bst_y hy]
        · rw [g9.2 88 57 (by omega), gwI_n (by omega), gwI_s]
        · rw [g9.2 88 58 (by omega), gwI_s]
        · exact v9
      · refine r_iload hG dX9_findPlan_126 rfl ?_
        refine r_aload_n hG dX9_findPlan_128 rfl ?_
        refine r_getIv hG 57 ((mBst (bD M0 wv sp nt c) (bMs M0 wv sp nt c) (sg nt c) (M0.1 88 58, M0.1 129) m).1) fk_X9_331 dX9_findPlan_129 rfl (by decide) rfl b57 ?_
        refine r_icmp_lt hG 153 dX9_findPlan_132 (by decide) (fun hc132 => ?_) (fun hc132 => ?_)
        · refine r_aload_n hG dX9_findPlan_153 rfl ?_
          refine r_iload hG dX9_findPlan_154 rfl ?_
          refine r_putI hG 57 fp_X9_331 dX9_findPlan_156 rfl (by decide) rfl rfl rfl ?_
          refine r_aload_n hG dX9_findPlan_159 rfl ?_
          refine r_iload hG dX9_findPlan_160 rfl ?_
          refine r_putI hG 58 fp_X9_340 dX9_findPlan_162 rfl (by decide) rfl rfl rfl ?_
          refine r_iconst hG (0) dX9_findPlan_165 (by decide) ?_
          refine r_istore hG dX9_findPlan_166 (by decide) ?_
          refine r_loc [some (.ref 88), some (.int dy), some (.int (nI ((nt + 1) ^ c))), some (.int (nI m)), some (.int l9), some (.int (bD M0 wv sp nt c m)), some (.int (bMs M0 wv sp nt c m)), some (.int (0))] rfl ?_
          have hy : ¬ (bD M0 wv sp nt c m) < 0 ∧ ((mBst (bD M0 wv sp nt c) (bMs M0 wv sp nt c) (sg nt c) (M0.1 88 58, M0.1 129) m).1 < 0 ∨ (bD M0 wv sp nt c m) < (mBst (bD M0 wv sp nt c) (bMs M0 wv sp nt c) (sg nt c) (M0.1 88 58, M0.1 129) m).1 ∨ ((bD M0 wv sp nt c m) = (mBst (bD M0 wv sp nt c) (bMs M0 wv sp nt c) (sg nt c) (M0.1 88 58, M0.1 129) m).1 ∧ (bMs M0 wv sp nt c m) < (mBst (bD M0 wv sp nt c) (bMs M0 wv sp nt c) (sg nt c) (M0.1 88 58, M0.1 129) m).2.1)) := ⟨hc116, Or.inr (Or.inl hc132)⟩
          refine lp_X9_findPlan4 hG hE hR0 hns0 ls hnt0 lt hc0 lc hwv0 hsp0 hsn (M1 := gwI (gwI M94 88 57 (bD M0 wv sp nt c m)) 88 58 (bMs M0 wv sp nt c m)) ((q94.put (by unfold Sb; omega)).put (by unfold Sb; omega)) (se := sg nt c m) (fun k hk => (gwI_n (by omega)).trans ((gwI_n (by omega)).trans ((h94.2 128 k (by unfold Sr; omega)).trans (h128 k hk)))) c 0 _ (by omega) gEq.rf (fun k hk => absurd hk (by omega)) (fun M9 g9 v9 => ?_)
          refine r_iinc hG (1) dX9_findPlan_197 (by decide) rfl ?_
          refine r_loc [some (.ref 88), some (.int dy), some (.int (nI ((nt + 1) ^ c))), some (.int ((nI m) + (1))), some (.int l9), some (.int (bD M0 wv sp nt c m)), some (.int (bMs M0 wv sp nt c m)), some (.int (nI c))] rfl ?_
          refine r_goto hG 39 dX9_findPlan_200 (by decide) ?_
          rw [nI_1]
          refine ih (m + 1) M9 _ _ _ _ (by omega) ⟨((q94.put (by unfold Sb; omega)).put (by unfold Sb; omega)).trans (g9.mono (fun k j h => by unfold Sb; omega)), ?_, ?_, ?_⟩ hP
          all_goals rw [bst_y hy]
          · rw [g9.2 88 57 (by omega), gwI_n (by omega), gwI_s]
          · rw [g9.2 88 58 (by omega), gwI_s]
          · exact v9
        · refine r_iload hG dX9_findPlan_135 rfl ?_
          refine r_aload_n hG dX9_findPlan_137 rfl ?_
          refine r_getIv hG 57 ((mBst (bD M0 wv sp nt c) (bMs M0 wv sp nt c) (sg nt c) (M0.1 88 58, M0.1 129) m).1) fk_X9_331 dX9_findPlan_138 rfl (by decide) rfl b57 ?_
          refine r_icmp_ne hG 197 dX9_findPlan_141 (by decide) (fun hc141 => ?_) (fun hc141 => ?_)
          · refine r_iinc hG (1) dX9_findPlan_197 (by decide) rfl ?_
            refine r_loc [some (.ref 88), some (.int dy), some (.int (nI ((nt + 1) ^ c))), some (.int ((nI m) + (1))), some (.int l9), some (.int (bD M0 wv sp nt c m)), some (.int (bMs M0 wv sp nt c m)), x7] rfl ?_
            refine r_goto hG 39 dX9_findPlan_200 (by decide) ?_
            rw [nI_1]
            refine ih (m + 1) M94 _ _ _ _ (by omega) ⟨q94, ?_, ?_, ?_⟩ hP
            all_goals rw [bst_n (fun q => q.2.elim hc123 (fun q => q.elim hc132 (fun q => hc141 q.1)))]
            · exact b57
            · exact b58
            · exact b129
          · refine r_iload hG dX9_findPlan_144 rfl ?_
            refine r_aload_n hG dX9_findPlan_146 rfl ?_
            refine r_getIv hG 58 ((mBst (bD M0 wv sp nt c) (bMs M0 wv sp nt c) (sg nt c) (M0.1 88 58, M0.1 129) m).2.1) fk_X9_340 dX9_findPlan_147 rfl (by decide) rfl b58 ?_
            refine r_icmp_ge hG 197 dX9_findPlan_150 (by decide) (fun hc150 => ?_) (fun hc150 => ?_)
            · refine r_iinc hG (1) dX9_findPlan_197 (by decide) rfl ?_
              refine r_loc [some (.ref 88), some (.int dy), some (.int (nI ((nt + 1) ^ c))), some (.int ((nI m) + (1))), some (.int l9), some (.int (bD M0 wv sp nt c m)), some (.int (bMs M0 wv sp nt c m)), x7] rfl ?_
              refine r_goto hG 39 dX9_findPlan_200 (by decide) ?_
              rw [nI_1]
              refine ih (m + 1) M94 _ _ _ _ (by omega) ⟨q94, ?_, ?_, ?_⟩ hP
              all_goals rw [bst_n (fun q => q.2.elim hc123 (fun q => q.elim hc132 (fun q => absurd q.2 (Int32.not_lt.mpr hc150))))]
              · exact b57
              · exact b58
              · exact b129
            · refine r_aload_n hG dX9_findPlan_153 rfl ?_
              refine r_iload hG dX9_findPlan_154 rfl ?_
              refine r_putI hG 57 fp_X9_331 dX9_findPlan_156 rfl (by decide) rfl rfl rfl ?_
              refine r_aload_n hG dX9_findPlan_159 rfl ?_
              refine r_iload hG dX9_findPlan_160 rfl ?_
              refine r_putI hG 58 fp_X9_340 dX9_findPlan_162 rfl (by decide) rfl rfl rfl ?_
              refine r_iconst hG (0) dX9_findPlan_165 (by decide) ?_
              refine r_istore hG dX9_findPlan_166 (by decide) ?_
              refine r_loc [some (.ref 88), some (.int dy), some (.int (nI ((nt + 1) ^ c))), some (.int (nI m)), some (.int l9), some (.int (bD M0 wv sp nt c m)), some (.int (bMs M0 wv sp nt c m)), some (.int (0))] rfl ?_
              have hy : ¬ (bD M0 wv sp nt c m) < 0 ∧ ((mBst (bD M0 wv sp nt c) (bMs M0 wv sp nt c) (sg nt c) (M0.1 88 58, M0.1 129) m).1 < 0 ∨ (bD M0 wv sp nt c m) < (mBst (bD M0 wv sp nt c) (bMs M0 wv sp nt c) (sg nt c) (M0.1 88 58, M0.1 129) m).1 ∨ ((bD M0 wv sp nt c m) = (mBst (bD M0 wv sp nt c) (bMs M0 wv sp nt c) (sg nt c) (M0.1 88 58, M0.1 129) m).1 ∧ (bMs M0 wv sp nt c m) < (mBst (bD M0 wv sp nt c) (bMs M0 wv sp nt c) (sg nt c) (M0.1 88 58, M0.1 129) m).2.1)) := ⟨hc116, Or.inr (Or.inr ⟨hc141, Int32.not_le.mp hc150⟩)⟩
              refine lp_X9_findPlan4 hG hE hR0 hns0 ls hnt0 lt hc0 lc hwv0 hsp0 hsn (M1 := gwI (gwI M94 88 57 (bD M0 wv sp nt c m)) 88 58 (bMs M0 wv sp nt c m)) ((q94.put (by unfold Sb; omega)).put (by unfold Sb; omega)) (se := sg nt c m) (fun k hk => (gwI_n (by omega)).trans ((gwI_n (by omega)).trans ((h94.2 128 k (by unfold Sr; omega)).trans (h128 k hk)))) c 0 _ (by omega) gEq.rf (fun k hk => absurd hk (by omega)) (fun M9 g9 v9 => ?_)
              refine r_iinc hG (1) dX9_findPlan_197 (by decide) rfl ?_
              refine r_loc [some (.ref 88), some (.int dy), some (.int (nI ((nt + 1) ^ c))), some (.int ((nI m) + (1))), some (.int l9), some (.int (bD M0 wv sp nt c m)), some (.int (bMs M0 wv sp nt c m)), some (.int (nI c))] rfl ?_
              refine r_goto hG 39 dX9_findPlan_200 (by decide) ?_
              rw [nI_1]
              refine ih (m + 1) M9 _ _ _ _ (by omega) ⟨((q94.put (by unfold Sb; omega)).put (by unfold Sb; omega)).trans (g9.mono (fun k j h => by unfold Sb; omega)), ?_, ?_, ?_⟩ hP
              all_goals rw [bst_y hy]
              · rw [g9.2 88 57 (by omega), gwI_n (by omega), gwI_s]
              · rw [g9.2 88 58 (by omega), gwI_s]
              · exact v9
    · refine r_iconst hG (0) dX9_findPlan_104 (by decide) ?_
      refine r_goto hG 112 dX9_findPlan_105 (by decide) ?_
      refine r_istore hG dX9_findPlan_112 (by decide) ?_
      refine r_loc [some (.ref 88), some (.int dy), some (.int (nI ((nt + 1) ^ c))), some (.int (nI m)), some (.int l9), some (.int (bD M0 wv sp nt c m)), some (.int (0)), x7] rfl ?_
      refine r_iload hG dX9_findPlan_114 rfl ?_
      refine r_if_lt hG 197 dX9_findPlan_116 (by decide) (fun hc116 => ?_) (fun hc116 => absurd (Int32.not_le.mp hc101) hc116)
      refine r_iinc hG (1) dX9_findPlan_197 (by decide) rfl ?_
      refine r_loc [some (.ref 88), some (.int dy), some (.int (nI ((nt + 1) ^ c))), some (.int ((nI m) + (1))), some (.int l9), some (.int (bD M0 wv sp nt c m)), some (.int (0)), x7] rfl ?_
      refine r_goto hG 39 dX9_findPlan_200 (by decide) ?_
      rw [nI_1]
      refine ih (m + 1) M94 _ _ _ _ (by omega) ⟨q94, ?_, ?_, ?_⟩ hP
      all_goals rw [bst_n (fun q => q.1 hc116)]
      · exact b57
      · exact b58
      · exact b129


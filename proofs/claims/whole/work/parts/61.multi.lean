def mM (M : gM) (n : Nat) : gM := (M.1, M.2.1, fun k j => if k = n ∧ j < 6 then some (n + 1 + j) else M.2.2 k j)
theorem mM_n {M : gM} {n k : Nat} (h : k ≠ n) : (mM M n).2.2 k = M.2.2 k := funext fun j => if_neg (fun z => h z.1)
def adm (ad : Nat → Nat) (n sz : Nat) : Nat → Nat := fun k => if n ≤ k ∧ k < n + 7 then sz + (k - n) else ad k
theorem adm_n {ad : Nat → Nat} {n sz k : Nat} (h : k < n ∨ n + 7 ≤ k) : adm ad n sz k = ad k := if_neg (by omega)
theorem adm_s {ad : Nat → Nat} {n sz j : Nat} (h : j < 7) : adm ad n sz (n + j) = sz + j := by
  unfold adm
  rw [if_pos (by omega), show n + j - n = j by omega]
theorem arrV_congr {c : ClassId} {n : Nat} {f g : Nat → Value} (h : ∀ j, j < n → f j = g j) : arrV c n f = arrV c n g := by
  unfold arrV
  congr 1
  congr 1
  funext j
  exact h j.val j.isLt
theorem outerC_is (c : ClassId) (sz : Nat) : Free.Multi.outerC c 6 sz 6 = arrV c 6 (fun j => va_rf (some (sz + 1 + j))) := by
  obtain ⟨h1, h2, h3⟩ := Free.Multi.outerC_facts c 6 sz 6
  obtain ⟨h4, h5⟩ := Free.Multi.outerC_plain c 6 sz 6
  have h6 := Free.Multi.outerC_slot c 6 sz 6
  cases e : Free.Multi.outerC c 6 sz 6 with
  | mk a b d f g =>
    rw [e] at h1 h2 h3 h4 h5 h6
    simp only at h1 h2 h3 h4 h5 h6
    subst h1 h2 h4 h5
    unfold arrV
    congr 1
    refine Array.ext (by rw [h3, Array.size_ofFn]) (fun i hi1 hi2 => ?_)
    have hi : i < 6 := by rw [h3] at hi1; exact hi1
    have := h6 i hi
    rw [Array.getElem?_eq_getElem hi1, if_pos hi] at this
    rw [Option.some.inj this, Array.getElem_ofFn]
    rfl
theorem innerC_is (c : ClassId) : Free.Multi.innerC c 4 (defaultValue .int) = arrV c 4 (fun _ => .int 0) := by
  unfold Free.Multi.innerC arrV
  congr 1
set_option maxHeartbeats 1000000 in
theorem r_multi {d mc ms : Nat} {own : String} {cc : ByteArray} {nL : Nat} {G : gJ} (hG : gS d mc ms own cc nL G) {Z : Nat × Nat × Nat} {pc : Nat} {L : List (Option Value)} {st : List Value} {M : gM} {index : Nat} (h1 : Cond.classLink own index "[[I" ∈ gT) (h2 : Cond.arrayClass .int ∈ gT) (hd : decode cc pc = .ok (.multianewarray index 2, 4)) (hkd : gK Z.1 = (3, 8, 6)) (hki : ∀ j, j < 6 → gK (Z.1 + (j + 1)) = (1, 0, 4)) (hM : fM Z.1 M) (h1000 : Z.1 < 900) (hc : Z.2.1 + 7 ≤ mc) (hs : Z.2.2 + 30 ≤ ms) (hL : gRs Z.1 L) (hst : gRs Z.1 (st.map some)) (kk : G (Z.1 + 7, Z.2.1 + 7, Z.2.2 + 30) (pc + 4) L (.ref Z.1 :: st) (mM M Z.1)) : G Z pc L (.int 4 :: .int 6 :: st) M := by
  obtain ⟨p, l, e, R, s, m, args, below, meth, c, D, dA, n0, ad0, Q, ⟨hx, hb, hml, hown, hts, hK, hlk, hfr, hlo, hX⟩, hmc, hms, rfl⟩ := hG
  intro ad H locs ls he hP hD hS hl T hT X
  subst hT
  subst hb
  have e6 : (6 : Int32).toNatClampNeg = 6 := by decide
  have e4 : (4 : Int32).toNatClampNeg = 4 := by decide
  have hcl : (Cond.classLink own index ("[" ++ (FieldType.array .int).toString)).before args s = true := by
    rw [show "[" ++ (FieldType.array .int).toString = "[[I" by decide +kernel]; exact hts _ h1
  obtain ⟨vm₁, cA, comp, hW, hfA, hfC, -, -, X', step⟩ := Stand.multianewarray2F X hx (own := own) (index := index) (ty := .int) (n := 6) (k := 4) (rest := st.map (gtr ad)) (g := F0 m pc ls (Value.int 4 :: Value.int 6 :: st.map (gtr ad))) hown hcl (hX.2.2.2.2.2) (hts _ h2) rfl hd rfl (by decide) (by decide) (by rw [e6]; decide) (by rw [e4]; decide) (by rw [e4]; decide) rfl rfl (by rw [e6, hmc]; omega) (by rw [e6, e4, hms]; omega)
  rw [e6, e4] at X' step
  have hA : cA = dA 8 := Option.some.inj (hfA.symm.trans ((hK.2 8 (dA 8, .array .int) rfl).2 : s.vm.findClass _ = some (dA 8)))
  have hB : comp = dA 0 := Option.some.inj (hfC.symm.trans ((hK.2 0 (dA 0, .int) rfl).2 : s.vm.findClass _ = some (dA 0)))
  subst hA hB
  have hH : (T.setVm vm₁).heap = T.heap := rfl
  obtain ⟨f1, f2, -, -⟩ := Free.Multi.fill_facts (T.setVm vm₁) (dA 8) (dA 0) 6 4 (defaultValue .int) 6
  have f3 : ∀ a, a < T.heap.size → (Free.Multi.fill (T.setVm vm₁) (dA 8) (dA 0) 6 4 (defaultValue .int) 6).heap[a]? = T.heap[a]? := fun a ha => Free.Multi.fill_old (T.setVm vm₁) (dA 8) (dA 0) 6 4 (defaultValue .int) ha 6
  have f4 : ∀ j, j < 6 → (Free.Multi.fill (T.setVm vm₁) (dA 8) (dA 0) 6 4 (defaultValue .int) 6).heap[T.heap.size + 1 + j]? = some (Free.Multi.innerC (dA 0) 4 (defaultValue .int)) := fun j hj => Free.Multi.fill_inner (T.setVm vm₁) (dA 8) (dA 0) 6 4 (defaultValue .int) 6 j hj
  rw [hH] at f1 f2
  generalize Free.Multi.fill (T.setVm vm₁) (dA 8) (dA 0) 6 4 (defaultValue .int) 6 = U at X' step f1 f2 f3 f4
  have hold : ∀ k, k < Z.1 → ad k < T.heap.size := fun k hk => by
    have h := hP k _ (gw_at hk)
    exact va_at.lt h
  have hgo : ∀ k, k < Z.1 → ge dA (adm ad Z.1 T.heap.size) (mM M Z.1) k = ge dA ad M k := fun k hk => by
    rw [ge_row (M' := mM M Z.1) (M := M) (q := k) rfl rfl (mM_n (by omega))]
    refine ge_ad (fun j => ?_)
    cases e : M.2.2 k j with
    | none => rfl
    | some k2 => show some (adm _ _ _ k2) = some (ad k2); rw [adm_n (Or.inl (hM.2 k j k2 e))]
  have hPn : va_P D vwCl (gw dA (adm ad Z.1 T.heap.size) (Z.1 + 7) (mM M Z.1)) U.heap := by
    intro k q hq
    obtain ⟨hk, rfl⟩ := gw_inv hq
    by_cases h : k < Z.1
    · rw [adm_n (Or.inl h), hgo k h]
      exact va_at.kept (q := (ad k, ge dA ad M k)) (hP k _ (gw_at h)) (f3 _ (hold k h))
    · obtain ⟨j, rfl⟩ : ∃ j, k = Z.1 + j := ⟨k - Z.1, by omega⟩
      have hj : j < 7 := by omega
      rw [adm_s hj]
      cases j with
      | zero =>
        rw [Nat.add_zero, Nat.add_zero, ge_ref hkd]
        show U.heap[T.heap.size]? = some (arrV (dA 8) 6 (fun j => va_rf (((mM M Z.1).2.2 Z.1 j).map (adm ad Z.1 T.heap.size))))
        rw [f2, outerC_is]
        congr 1
        refine arrV_congr (fun j hj => ?_)
        show va_rf (some (T.heap.size + 1 + j)) = va_rf ((if Z.1 = Z.1 ∧ j < 6 then some (Z.1 + 1 + j) else _).map _)
        rw [if_pos ⟨rfl, hj⟩]
        show _ = va_rf (some (adm ad Z.1 T.heap.size (Z.1 + 1 + j)))
        rw [Nat.add_assoc Z.1, adm_s (by omega), Nat.add_assoc]
      | succ j =>
        rw [ge_int (hki j (by omega))]
        show U.heap[T.heap.size + (j + 1)]? = some (arrV (dA 0) 4 (fun i => .int ((mM M Z.1).1 (Z.1 + (j + 1)) i)))
        rw [show T.heap.size + (j + 1) = T.heap.size + 1 + j by omega, f4 j (by omega), innerC_is]
        congr 1
        refine arrV_congr (fun i hi => ?_)
        show Value.int 0 = Value.int (M.1 (Z.1 + (j + 1)) i)
        rw [(hM.1 (Z.1 + (j + 1)) i (by omega)).1]
  have hDn : va_D (gA ad0 n0 s.heap.size) (gw dA (adm ad Z.1 T.heap.size) (Z.1 + 7) (mM M Z.1)) := by
    refine ⟨fun i j p q hp hq e => ?_, fun k q hq => ?_⟩
    · obtain ⟨h1, rfl⟩ := gw_inv hp
      obtain ⟨h2, rfl⟩ := gw_inv hq
      have e' : adm ad Z.1 T.heap.size i = adm ad Z.1 T.heap.size j := e
      unfold adm at e'
      by_cases hi : i < Z.1
      · by_cases hj : j < Z.1
        · rw [if_neg (by omega), if_neg (by omega)] at e'
          exact hD.1 i j _ _ (gw_at hi) (gw_at hj) e'
        · rw [if_neg (by omega), if_pos (by omega)] at e'
          have := hold i hi
          omega
      · by_cases hj : j < Z.1
        · rw [if_pos (by omega), if_neg (by omega)] at e'
          have := hold j hj
          omega
        · rw [if_pos (by omega), if_pos (by omega)] at e'
          omega
    · obtain ⟨hk, rfl⟩ := gw_inv hq
      show gA ad0 n0 s.heap.size (adm ad Z.1 T.heap.size k)
      by_cases h : k < Z.1
      · rw [adm_n (Or.inl h)]
        exact hD.2 k _ (gw_at h)
      · unfold adm
        rw [if_pos (by omega)]
        exact Or.inr (by have := hS.1; omega)
  have hSn : va_S (gA ad0 n0 s.heap.size) s.heap U.heap locs := ⟨by rw [f1]; have := hS.1; omega, fun q h1 h2 => by rw [f3 q (by have := hS.1; omega)]; exact hS.2.1 q h1 h2, hS.2.2⟩
  have hen : gExt n0 ad0 (Z.1 + 7) (adm ad Z.1 T.heap.size) := by
    have := he.1
    refine ⟨by omega, fun k hk => ?_, fun e => by omega⟩
    rw [adm_n (by omega)]; exact he.2.1 k hk
  have hstn : (Value.ref Z.1 :: st).map (gtr (adm ad Z.1 T.heap.size)) = .ref T.heap.size :: st.map (gtr ad) := by
    rw [List.map_cons]
    congr 1
    · show Value.ref (adm ad Z.1 T.heap.size Z.1) = _
      have := adm_s (ad := ad) (n := Z.1) (sz := T.heap.size) (j := 0) (by omega)
      rw [Nat.add_zero, Nat.add_zero] at this
      rw [this]
    · refine List.map_congr_left fun v hv => ?_
      cases v with
      | ref k => show Value.ref (adm _ _ _ k) = Value.ref (ad k); rw [adm_n (by have := gRs_mem hst hv; omega)]
      | _ => rfl
  obtain ⟨t, a1, b1⟩ := kk (adm ad Z.1 T.heap.size) U.heap locs ls hen hPn hDn hSn (gl_ad hl (fun i k e => adm_n (by have := gRs_at hL i k e; omega))) U rfl X'
  rw [hstn] at a1
  exact ⟨t, step t a1, b1⟩

/-! days, class and model -/
theorem rest_rd {M : gM} {k j : Nat} : ∀ n, (itr fmRest n M).1 k j = if k = 122 ∧ j < n then 0 else M.1 k j
  | 0 => by rw [if_neg (by omega)]; rfl
  | n + 1 => by
    show (gwI (itr fmRest n M) 122 n 0).1 k j = _
    rw [gwI_rd, rest_rd n]
    by_cases h1 : k = 122 ∧ j = n
    · rw [if_pos h1, if_pos (by omega)]
    · rw [if_neg h1]
      by_cases h2 : k = 122 ∧ j < n
      · rw [if_pos h2, if_pos (by omega)]
      · rw [if_neg h2, if_neg (by omega)]
section
variable {b : Bool} {h nv ns nt nb nd nw : Nat} {t : tS} {s : oT} {Mc Mm Mc' Mm' Mb Mb' : gM}
theorem drives_R (r : Rl b h nv ns nt nb nd nw t s Mb Mb') {sp wv be be' : Nat → Nat} {n : Nat} {Mp : gM} (hsp : ∀ t, t < nt → sp t < ns) (h28 : ∀ k, k < n → Mp.1 28 k = nI (wv k) ∧ wv k < nv) (h39 : ∀ k, k < n → Mp.1 39 k = dg nt (be k)) (hbe : ∀ k, k < n → be' k = be k) : ∀ i, i ≤ n → Rl b h nv ns nt nb nd nw t s (itr (dstep Mp sp nt) i Mb) (itr (mstep be' wv sp nt) i Mb')
  | 0, _ => r
  | i + 1, hi => by
    have ih := drives_R r hsp h28 h39 hbe i (by omega)
    have l1 := r.1.1
    have l3 := r.1.2.2.1
    show Rl b h nv ns nt nb nd nw t s (dstep Mp sp nt i (itr (dstep Mp sp nt) i Mb)) (mstep be' wv sp nt i (itr (mstep be' wv sp nt) i Mb'))
    generalize itr (dstep Mp sp nt) i Mb = A at ih ⊢
    generalize itr (mstep be' wv sp nt) i Mb' = B at ih ⊢
    have w2 := (h28 i hi).2
    unfold dstep mstep
    rw [h39 i hi, (h28 i hi).1, hbe i hi]
    unfold dg
    by_cases z : be i < nt
    · rw [if_pos z, nI_clamp (by omega), if_pos ⟨nI_pos' (by omega), z⟩, if_pos z, nI_clamp (by omega)]
      exact drive_R ih z (hsp _ z) w2
    · rw [if_neg z, if_neg (fun y => absurd y.1 (by decide)), if_neg z]
      exact ih
set_option maxHeartbeats 1000000 in
theorem day_R (r : Rl b h nv ns nt nb nd nw t s Mc Mm) (lw : nw + 1 < 400) {sp : Nat → Nat} (hsp : ∀ t, t < nt → Mm.1 119 t = nI (sp t) ∧ sp t < ns) (hc : dayR Mc Mc' ns nt nv s.1 nw sp s.2.1 s.2.2.1 s.2.2.2.1 s.2.2.2.2) (hm : mdayR Mm Mm' ns nt nv s.1 nw sp s.2.1 s.2.2.1 s.2.2.2.1 s.2.2.2.2) : Rl b h nv ns nt nb nd (nw + 1) t s Mc' Mm' := by
  have l1 := r.1.1
  have l3 := r.1.2.2.1
  obtain ⟨Mb, Md, hk, -, -, hg, rfl⟩ := hc
  obtain ⟨Mb', Md', be', hf, hb', hg', rfl⟩ := hm
  have rA : Rl b h nv ns nt nb nd nw t s (itr fWell nv (itr fRun ns Mc)) (mGrow ns nv Mm) := wells_R (runs_R r ns (Nat.le_refl ns)) nv (Nat.le_refl nv)
  have hrest := itr_eq (S := fun k j => 74 ≤ k ∧ k < 78 ∧ j = 3) (f := fRest) (N := 4) (fun i M hi => gEq.rf.put (by omega)) nt (itr fWell nv (itr fRun ns Mc)) l3
  have ec : ∀ k j, ¬ (74 ≤ k ∧ k < 78 ∧ j = 3) → (fMorn ns nv nt Mc).1 k j = (itr fWell nv (itr fRun ns Mc)).1 k j := hrest.2
  obtain ⟨a1, a2, -, -, be, a5, a6, a7⟩ := plan_link rA ec (sp := sp) (lkc := lkF (fMorn ns nv nt Mc) s.1 s.2.1 s.2.2.1 s.2.2.2.1 s.2.2.2.2) (lkm := mlk (mGrow ns nv Mm) (nI (nw + 1)) s.1 s.2.1 s.2.2.1 s.2.2.2.1 s.2.2.2.2) (fun t ht => by rw [mGrow_eq.2 119 t (by unfold Sy; omega)]; exact hsp t ht) (fun v hv => by
      show wantV (fMorn ns nv nt Mc) (2 * v + 42) s.1 s.2.1 s.2.2.1 s.2.2.2.1 s.2.2.2.2 - (fMorn ns nv nt Mc).1 (2 * v + 42) 3 = _
      rw [ec _ _ (by omega), wantV_c2 (fun j => ec _ _ (by omega)) (ec _ _ (by omega)) (ec _ _ (by omega))]) (fun v hv => rfl) (fun v hv => rfl) hk hf
  have hw2 := hf.n.2.2
  rw [a1] at hg
  generalize min6 (ndc (mlk (mGrow ns nv Mm) (nI (nw + 1)) s.1 s.2.1 s.2.2.1 s.2.2.2.1 s.2.2.2.2) nv) = n at *
  generalize whoN (mlk (mGrow ns nv Mm) (nI (nw + 1)) s.1 s.2.1 s.2.2.1 s.2.2.2.1 s.2.2.2.2) nv = wv at *
  have rB : Rl b h nv ns nt nb nd nw t s (fMorn ns nv nt Mc) (itr fmRest nt (mGrow ns nv Mm)) := rests_R rA nt l3
  have rC : Rl b h nv ns nt nb nd nw t s Mb (itr fmRest nt Mb') := by
    refine (rB.c (fun k j u => hk.eq.2 k j (uC_Sp u))).m (fun k j u => ?_) (fun w hw => ?_)
    · rw [rest_rd, rest_rd, hf.eq.2 k j (by unfold uM at u; unfold Sx; omega)]
    · rw [(itr_e (fun _ _ => fmRest_eq) nt Mb').1, (itr_e (fun _ _ => fmRest_eq) nt (mGrow ns nv Mm)).1, hf.eq.1]
  have rD := drives_R rC (be := be) (be' := be') (Mp := Mb) (wv := wv) (n := n) (fun t ht => (hsp t ht).2) (fun k hk => ⟨a2 k hk, (hw2 k hk).2⟩) a6 (fun k hk => by
    have e1 := a5 k
    obtain ⟨e2, e3⟩ := hb' k hk
    exact neq_t (by omega) (by omega) (e2.symm.trans (a7 k hk))) n (Nat.le_refl n)
  exact give_R rD lw hg hg'
theorem days_R {sp : Nat → Nat} (r : Rl b h nv ns nt nb nd nw t s Mc Mm) (hsp : ∀ t, t < nt → Mm.1 119 t = nI (sp t) ∧ sp t < ns) : ∀ n Mc' Mm', nw + n < 400 → daysR ns nt nv s.1 sp s.2.1 s.2.2.1 s.2.2.2.1 s.2.2.2.2 nw n Mc Mc' → mdaysR ns nt nv s.1 sp s.2.1 s.2.2.1 s.2.2.2.1 s.2.2.2.2 nw n Mm Mm' → Rl b h nv ns nt nb nd (nw + n) t s Mc' Mm' := by
  intro n
  induction n with
  | zero =>
    intro Mc' Mm' _ h1 h2
    cases h1
    cases h2
    exact r
  | succ n ih =>
    intro Mc' Mm' hn h1 h2
    obtain ⟨M1, g1, g2⟩ := h1
    obtain ⟨M1', g1', g2'⟩ := h2
    have hi := ih M1 M1' (by omega) g1 g1'
    have hq := (mdaysR.eq g1' r.2.2.1.2.2.2.2.2).1
    exact day_R hi (by omega) (fun t ht => by rw [hq.2 119 t (by unfold Se Sx Sy Sz; omega)]; exact hsp t ht) g2 g2'
end
set_option maxHeartbeats 2000000 in
theorem good_days {M : gM} (hI : Inv M) (x : Int32) : Good M [.int x] 19 yX8_days cX8_days 3 .int 5 yX9_days cX9_days 3 .int := by
  obtain ⟨b, h, nv, ns, nt, nb, nd, nw, t, s, hR, r⟩ := hI
  have l := r.1
  have l3 := l.2.2.1
  have r2 := r.2.1
  have r8 := r.2.2.2.2.2.2.2.1
  obtain ⟨sp, hsp⟩ := r.sp
  have hts : ∀ t, t < nt → M.1 (t + 74) 0 = nI (sp t) ∧ sp t < ns := fun t ht => ⟨(r8 t (by omega)).1.trans (hsp t ht).1, (hsp t ht).2⟩
  refine ⟨_, ct_X8_days hR r2.1 l.1 r2.2.1 l.2.1 r2.2.2.1 l.2.2.1 r2.2.2.2.1 l.2.2.2.1 rfl r.2.2.2.2.2.2.2.2.2.2.2.2.2.1 hts r2.2.2.2.2.2 l.2.2.2.2.2 x, fun x1 M1 h1 => ?_⟩
  have hq : gEq Sd M M1 := by
    rcases h1 with ⟨n, -, -, -, h1, -⟩ | ⟨-, -, rfl⟩
    · exact (h1.eq r2.2.2.2.2.2).1
    · exact gEq.rf
  have hfm : FM M M1 := ⟨fun k j hk => hq.2 k j (by unfold Sd Sp Sc; omega), by rw [hq.1]⟩
  have hR1 : M1.2.2 = stdR b := by rw [hq.1]; exact hR
  have rm := r.fm hfm
  have r3 := rm.2.2.1
  have hsp1 : ∀ t, t < nt → M1.1 119 t = nI (sp t) ∧ sp t < ns := fun t ht => ⟨(hfm.1 119 t (by omega)).trans (hsp t ht).1, (hsp t ht).2⟩
  refine ⟨_, ct_X9_days hR1 r3.1 l.1 r3.2.1 l.2.1 r3.2.2.1 l.2.2.1 r3.2.2.2.1 l.2.2.2.1 rm.2.2.2.2.2.2.2.2.2.2.2.2.2.2.1 (tank0 rm) hsp1 r3.2.2.2.2.2 l.2.2.2.2.2 x, fun x2 M2 h2 => ?_⟩
  rcases h1 with ⟨n, rfl, n1, n2, h1, rfl⟩ | ⟨c1, rfl, rfl⟩
  · rcases h2 with ⟨n', e, n3, -, h2, rfl⟩ | ⟨m1, -, -⟩
    · obtain rfl : n = n' := neq_t (by omega) (by omega) e
      have rl : Rl b h nv ns nt nb nd nw t s M (gwI M1 88 0 0) := rm.m (fun k j u => gwI_n (by unfold uM at u; omega)) (fun _ _ => rfl)
      have rd := days_R rl (sp := sp) (fun t ht => by rw [gwI_n (by omega)]; exact hsp1 t ht) n M1 M2 n2 h1 h2
      have hq2 := (mdaysR.eq h2 (by rw [gwI_n (by omega)]; exact r3.2.2.2.2.2)).1
      refine ⟨rfl, b, h, nv, ns, nt, nb, nd, nw + n, t, s, by rw [hq2.1]; exact hR1, rd.c (fun k j u => ?_)⟩
      have := uC_lt u
      rw [hq2.2 k j (by unfold Se Sx Sy Sz; omega), gwI_n (by omega)]
    · exact absurd ⟨n, rfl, n1, n2⟩ m1
  · rcases h2 with ⟨n', e, n1, n2, -, -⟩ | ⟨-, rfl, rfl⟩
    · exact absurd ⟨n', e, n1, n2⟩ c1
    · exact ⟨rfl, Inv.t0 hR r⟩

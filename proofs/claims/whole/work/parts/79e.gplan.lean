section
variable {b : Bool} {h nv ns nt nb nd nw : Nat} {t : tS} {s : oT} {M M1 M2 Mc Mm : gM}
theorem uC_Sp {k j : Nat} (u : uC b k j) : ¬ Sp k j := by
  intro z
  rcases z with z | z
  · exact uC_Sc u z
  · unfold uC at u
    cases b <;> simp at u <;> omega
theorem fm_Sp (g : gEq Sp M M1) : FM M M1 := ⟨fun k j hk => g.2 k j (by unfold Sp Sc; omega), by rw [g.1]⟩
theorem Rl.sp (r : Rl b h nv ns nt nb nd nw t s Mc Mm) : ∃ sp : Nat → Nat, ∀ t, t < nt → Mm.1 119 t = nI (sp t) ∧ sp t < ns := ⟨fun t => (Mm.1 119 t).toNatClampNeg, fun t ht => by
  obtain ⟨u, g, m, e1, -, -, e4, -⟩ := r.2.2.2.1.2.2.2.2.2.1 t ht
  have l2 := r.1.2.1
  show Mm.1 119 t = nI (Mm.1 119 t).toNatClampNeg ∧ (Mm.1 119 t).toNatClampNeg < ns
  rw [e1, nI_clamp (by omega)]
  exact ⟨rfl, e4⟩⟩
theorem Rl.sx (r : Rl b h nv ns nt nb nd nw t s M M) (g : gEq Sp M M1) (g2 : gEq Sx (gwI M1 88 0 0) M2) : Rl b h nv ns nt nb nd nw t s M2 M2 := r.same (fun k j u => ((g2.2 k j (by have := uC_lt u; unfold Sx; omega)).trans (gwI_n (by have := uC_lt u; omega))).trans (g.2 k j (uC_Sp u))) (fun k j u => ((g2.2 k j (by unfold uM at u; unfold Sx; omega)).trans (gwI_n (by unfold uM at u; omega))).trans (g.2 k j (by unfold uM at u; unfold Sp Sc; omega))) (by rw [g2.1]; show M1.2.1 = _; rw [g.1])
end
set_option maxHeartbeats 2000000 in
theorem good_plan {M : gM} (hI : Inv M) (w : Int32) : Good M [.int w] 18 yX8_plan cX8_plan 2 .int 5 yX9_plan cX9_plan 2 .int := by
  obtain ⟨b, h, nv, ns, nt, nb, nd, nw, t, s, hR, r⟩ := hI
  have l := r.1
  have l3 := l.2.2.1
  have r2 := r.2.1
  have r8 := r.2.2.2.2.2.2.2.1
  obtain ⟨sp, hsp⟩ := r.sp
  have hts : ∀ t, t < nt → M.1 (t + 74) 0 = nI (sp t) ∧ sp t < ns := fun t ht => ⟨(r8 t (by omega)).1.trans (hsp t ht).1, (hsp t ht).2⟩
  refine ⟨_, ct_X8_plan hR r2.1 l.1 r2.2.1 l.2.1 r2.2.2.1 l.2.2.1 r2.2.2.2.1 l.2.2.2.1 rfl r.2.2.2.2.2.2.2.2.2.2.2.2.2.1 hts w, fun x1 M1 h1 => ?_⟩
  have hq : gEq Sp M M1 := by
    rcases h1 with ⟨-, -, rfl⟩ | ⟨-, h1, -⟩
    · exact gEq.rf
    · exact h1.eq
  have hfm := fm_Sp hq
  have hR1 : M1.2.2 = stdR b := by rw [hq.1]; exact hR
  have rm := r.fm hfm
  have r3 := rm.2.2.1
  have hsp1 : ∀ t, t < nt → M1.1 119 t = nI (sp t) ∧ sp t < ns := fun t ht => ⟨(hfm.1 119 t (by omega)).trans (hsp t ht).1, (hsp t ht).2⟩
  refine ⟨_, ct_X9_plan hR1 r3.1 l.1 r3.2.1 l.2.1 r3.2.2.1 l.2.2.1 r3.2.2.2.1 l.2.2.2.1 rm.2.2.2.2.2.2.2.2.2.2.2.2.2.2.1 (tank0 rm) hsp1 r3.2.2.2.2.2 l.2.2.2.2.2 w, fun x2 M2 h2 => ?_⟩
  obtain ⟨h2, e2⟩ := h2
  have hq2 := h2.eq
  refine ⟨?_, b, h, nv, ns, nt, nb, nd, nw, t, s, by rw [hq2.1]; exact hR1, r.sx hq hq2⟩
  rcases h1 with ⟨hn, rfl, rfl⟩ | ⟨hv, hk, rfl⟩
  · rw [e2, if_neg (fun z => hn (by rw [z]; exact ⟨by decide, by decide⟩)), if_neg (fun z => hn (by rw [z]; exact ⟨by decide, by decide⟩)), if_neg (fun z => hn (by rw [z]; exact ⟨by decide, by decide⟩))]
  · have rl : Rl b h nv ns nt nb nd nw t s M (gwI M1 88 0 0) := rm.m (fun k j u => gwI_n (by unfold uM at u; omega)) (fun _ _ => rfl)
    obtain ⟨a1, a2, a3, a4, -⟩ := plan_link rl (fun _ _ _ => rfl) (sp := sp) (lkc := lkF M s.1 s.2.1 s.2.2.1 s.2.2.2.1 s.2.2.2.2) (fun t ht => by rw [gwI_n (by omega)]; exact hsp1 t ht) (fun v hv => rfl) (fun v hv => (mwantV_c (fun k j z => gwI_n (by omega))).symm) (fun v hv => by rw [gwI_n (by omega)]; rfl) hk h2
    obtain ⟨w, rfl, -, w2⟩ := rng (lo := 0) (hi := 2) (by omega) (by omega) hv
    rcases (show w = 0 ∨ w = 1 ∨ w = 2 by omega) with rfl | rfl | rfl
    · rw [e2, if_pos (show nI 0 = 0 from rfl), if_pos (show nI 0 = 0 from rfl), hk.n.2.1, h2.n.2.1, a1]
    · rw [e2, if_neg (show ¬ nI 1 = 0 by decide), if_pos (show nI 1 = 1 from rfl), if_neg (show ¬ nI 1 = 0 by decide), if_pos (show nI 1 = 1 from rfl), a3]
    · rw [e2, if_neg (show ¬ nI 2 = 0 by decide), if_neg (show ¬ nI 2 = 1 by decide), if_neg (show ¬ nI 2 = 0 by decide), if_neg (show ¬ nI 2 = 1 by decide), if_pos (show nI 2 = 2 from rfl), a4]
set_option maxHeartbeats 2000000 in
theorem good_planned {M : gM} (hI : Inv M) (v : Int32) : Good M [.int v] 18 yX8_planned cX8_planned 3 .int 5 yX9_planned cX9_planned 4 .int := by
  obtain ⟨b, h, nv, ns, nt, nb, nd, nw, t, s, hR, r⟩ := hI
  have l := r.1
  have l1 := l.1
  have l3 := l.2.2.1
  have r2 := r.2.1
  have r8 := r.2.2.2.2.2.2.2.1
  obtain ⟨sp, hsp⟩ := r.sp
  have hts : ∀ t, t < nt → M.1 (t + 74) 0 = nI (sp t) ∧ sp t < ns := fun t ht => ⟨(r8 t (by omega)).1.trans (hsp t ht).1, (hsp t ht).2⟩
  refine ⟨_, ct_X8_planned hR r2.1 l.1 r2.2.1 l.2.1 r2.2.2.1 l.2.2.1 r2.2.2.2.1 l.2.2.2.1 rfl r.2.2.2.2.2.2.2.2.2.2.2.2.2.1 hts v, fun x1 M1 h1 => ?_⟩
  have hq : gEq Sp M M1 := by
    rcases h1 with ⟨-, -, rfl⟩ | ⟨_, -, -, h1, -⟩
    · exact gEq.rf
    · exact h1.eq
  have hfm := fm_Sp hq
  have hR1 : M1.2.2 = stdR b := by rw [hq.1]; exact hR
  have rm := r.fm hfm
  have r3 := rm.2.2.1
  have hsp1 : ∀ t, t < nt → M1.1 119 t = nI (sp t) ∧ sp t < ns := fun t ht => ⟨(hfm.1 119 t (by omega)).trans (hsp t ht).1, (hsp t ht).2⟩
  refine ⟨_, ct_X9_planned hR1 r3.1 l.1 r3.2.1 l.2.1 r3.2.2.1 l.2.2.1 r3.2.2.2.1 l.2.2.2.1 rm.2.2.2.2.2.2.2.2.2.2.2.2.2.2.1 (tank0 rm) hsp1 r3.2.2.2.2.2 l.2.2.2.2.2 v, fun x2 M2 h2 => ?_⟩
  obtain ⟨h2, e2⟩ := h2
  have hq2 := h2.eq
  refine ⟨?_, b, h, nv, ns, nt, nb, nd, nw, t, s, by rw [hq2.1]; exact hR1, r.sx hq hq2⟩
  have hw2 := h2.n.2.2
  rcases h1 with ⟨hn, rfl, rfl⟩ | ⟨q, hq9, rfl, hk, rfl⟩
  · rw [e2, mfind_no _ (fun k hk z => hn ⟨_, (hw2 k hk).2, z.symm.trans (hw2 k hk).1⟩)]
  · have rl : Rl b h nv ns nt nb nd nw t s M (gwI M1 88 0 0) := rm.m (fun k j u => gwI_n (by unfold uM at u; omega)) (fun _ _ => rfl)
    obtain ⟨a1, a2, -, -, be, a5, a6, a7⟩ := plan_link rl (fun _ _ _ => rfl) (sp := sp) (lkc := lkF M s.1 s.2.1 s.2.2.1 s.2.2.2.1 s.2.2.2.2) (fun t ht => by rw [gwI_n (by omega)]; exact hsp1 t ht) (fun v hv => rfl) (fun v hv => (mwantV_c (fun k j z => gwI_n (by omega))).symm) (fun v hv => by rw [gwI_n (by omega)]; rfl) hk h2
    rw [e2, a1]
    refine planned_eq l1 l3 (fun k hk => ⟨a2 k hk, hw2 k hk⟩) (fun k k' hk hk' e => ?_) (fun k hk => ⟨a6 k hk, a7 k hk, a5 k⟩) _
    have h6 : ∀ {k}, k < min6 (ndc (mlk M1 (nI (nw + 1)) s.1 s.2.1 s.2.2.1 s.2.2.2.1 s.2.2.2.2) nv) → k < ndc (mlk M1 (nI (nw + 1)) s.1 s.2.1 s.2.2.1 s.2.2.2.1 s.2.2.2.2) nv := fun {k} hk => by unfold min6 at hk; split at hk <;> omega
    have z1 := (whoN_at _ nv k (h6 hk)).2.2
    have z2 := (whoN_at _ nv k' (h6 hk')).2.2
    rw [e] at z1
    exact z1.symm.trans z2

/-! call by call -/
def Inv (M : gM) : Prop := ∃ b h nv ns nt nb nd nw t s, M.2.2 = stdR b ∧ Rl b h nv ns nt nb nd nw t s M M
def Good (M : gM) (As : List Value) (dc : Nat) (yc : MethodName) (cc : ByteArray) (nc : Nat) (tc : FieldType) (dm : Nat) (ym : MethodName) (cm : ByteArray) (nm : Nat) (tm : FieldType) : Prop :=
  ∃ P1 : Int32 → gM → Prop, gC dc 0 0 yc cc nc (some tc) 140 140 (.ref 0 :: As) M (gI P1) ∧ ∀ x1 M1, P1 x1 M1 → ∃ P2 : Int32 → gM → Prop, gC dm 0 0 ym cm nm (some tm) 140 140 (.ref 88 :: As) M1 (gI P2) ∧ ∀ x2 M2, P2 x2 M2 → x1 = x2 ∧ Inv M2
/-- the model's part is as it was -/
def FM (M M1 : gM) : Prop := (∀ k j, 88 ≤ k → M1.1 k j = M.1 k j) ∧ M1.2.1 = M.2.1
theorem FM.rf {M : gM} : FM M M := ⟨fun _ _ _ => rfl, rfl⟩
section
variable {b : Bool} {h nv ns nt nb nd nw : Nat} {t : tS} {s : oT} {M M1 M2 Mc : gM}
theorem Rl.fm (r : Rl b h nv ns nt nb nd nw t s Mc M) (f : FM M M1) : Rl b h nv ns nt nb nd nw t s Mc M1 := r.m (fun k j u => f.1 k j (by unfold uM at u; omega)) (fun w hw => by rw [f.2])
/-- nothing that the relation reads has changed -/
theorem Rl.same (r : Rl b h nv ns nt nb nd nw t s M M) (ec : ∀ k j, uC b k j → M2.1 k j = M.1 k j) (em : ∀ k j, uM k j → M2.1 k j = M.1 k j) (el : M2.2.1 = M.2.1) : Rl b h nv ns nt nb nd nw t s M2 M2 := (r.c ec).m em (fun w hw => by rw [el])
theorem uM_no : ¬ uM 88 0 := by unfold uM; omega
theorem uC_lt {k j : Nat} (u : uC b k j) : k < 88 := by
  unfold uC at u
  cases b <;> simp at u <;> omega
theorem w880 {k j : Nat} {v : Int32} (hk : k ≠ 88 ∨ j ≠ 0) : (gwI M 88 0 v).1 k j = M.1 k j := gwI_n (by omega)
theorem Rl.t0 (r : Rl b h nv ns nt nb nd nw t s M M) {v : Int32} : Rl b h nv ns nt nb nd nw t s (gwI M 88 0 v) (gwI M 88 0 v) := r.same (fun k j u => w880 (Or.inl (by have := uC_lt u; omega))) (fun k j u => w880 (Classical.byContradiction fun e => by
  have e1 : k = 88 := by omega
  have e2 : j = 0 := by omega
  subst e1 e2
  exact uM_no u)) rfl
theorem Inv.t0 (hR : M.2.2 = stdR b) (r : Rl b h nv ns nt nb nd nw t s M M) {v : Int32} : Inv (gwI M 88 0 v) := ⟨b, h, nv, ns, nt, nb, nd, nw, t, s, hR, r.t0⟩
end
set_option maxHeartbeats 1000000 in
theorem good_village {M : gM} (hI : Inv M) (p be tk x : Int32) : Good M [.int p, .int be, .int tk, .int x] 1 yX8_village cX8_village 7 .int 1 yX9_village cX9_village 5 .int := by
  obtain ⟨b, h, nv, ns, nt, nb, nd, nw, t, s, hR, r⟩ := hI
  have l := r.1
  have l1 := l.1
  have l2 := l.2.1
  have l3 := l.2.2.1
  have l4 := l.2.2.2.1
  have r2 := r.2.1
  refine ⟨_, ct_X8_village hR r2.1 l.1 r2.2.1 l.2.1 r2.2.2.1 l.2.2.1 r2.2.2.2.1 l.2.2.2.1 p be tk x, fun x1 M1 h1 => ?_⟩
  have hfm : FM M M1 := by
    rcases h1 with ⟨-, -, -, rfl⟩ | ⟨-, -, rfl⟩
    · refine ⟨fun k j hk => ?_, rfl⟩
      unfold fX8_village
      rw [gwI_n (by omega), gwI_n (by omega), gwI_n (by omega), gwI_n (by omega), gwI_n (by omega)]
    · exact FM.rf
  have hR1 : M1.2.2 = stdR b := by
    rcases h1 with ⟨-, -, -, rfl⟩ | ⟨-, -, rfl⟩
    · exact hR
    · exact hR
  have rm := r.fm hfm
  have r3 := rm.2.2.1
  refine ⟨_, ct_X9_village hR1 r3.1 l.1 r3.2.1 l.2.1 r3.2.2.1 l.2.2.1 r3.2.2.2.1 l.2.2.2.1 p be tk x, fun x2 M2 h2 => ?_⟩
  rcases h1 with c0 | ⟨c1, rfl, rfl⟩
  · rcases h2 with m0 | ⟨m1, rfl, rfl⟩
    · obtain ⟨⟨v1, v2, v3, v4⟩, v5, rfl, rfl⟩ := c0
      obtain ⟨-, -, rfl, rfl⟩ := m0
      obtain ⟨p, rfl, p1, p2⟩ := rng (lo := 1) (hi := 2000) (by omega) (by omega) v1
      obtain ⟨be, rfl, -, be2⟩ := rng (lo := 0) (hi := 2000) (by omega) (by omega) v2
      obtain ⟨tk, rfl, t1, t2⟩ := rng (lo := 1) (hi := 100000) (by omega) (by omega) v3
      obtain ⟨x, rfl, -, x2⟩ := rng (lo := 0) (hi := tk) (by omega) (by omega) v4
      refine ⟨rfl, _, _, _, _, _, _, _, _, _, _, hR, up_village (p := p) (be := be) (tk := tk) (x := x) ⟨p1, p2⟩ be2 ⟨t1, t2⟩ x2 v5 r rfl ?_ ?_ ?_ ?_ ?_ ?_ ?_ ?_ ?_ ?_ ?_⟩
      · intro k j hn; unfold fX9_village fX8_village; rw [gwI_n (by omega), gwI_n (by omega), gwI_n (by omega), gwI_n (by omega), gwI_n (by omega), gwI_n (by omega), gwI_n (by omega), gwI_n (by omega), gwI_n (by omega), gwI_n (by omega), gwI_n (by omega)]
      · unfold fX9_village fX8_village; rw [gwI_n (by omega), gwI_n (by omega), gwI_n (by omega), gwI_n (by omega), gwI_n (by omega), gwI_n (by omega), gwI_s, nI_1]
      · unfold fX9_village fX8_village; rw [gwI_s, nI_1]
      · unfold fX9_village fX8_village; rw [gwI_n (by omega), gwI_n (by omega), gwI_n (by omega), gwI_n (by omega), gwI_n (by omega), gwI_n (by omega), gwI_n (by omega), gwI_n (by omega), gwI_n (by omega), gwI_n (by omega), gwI_s]
      · unfold fX9_village fX8_village; rw [gwI_n (by omega), gwI_n (by omega), gwI_n (by omega), gwI_n (by omega), gwI_n (by omega), gwI_n (by omega), gwI_n (by omega), gwI_n (by omega), gwI_n (by omega), gwI_s]
      · unfold fX9_village fX8_village; rw [gwI_n (by omega), gwI_n (by omega), gwI_n (by omega), gwI_n (by omega), gwI_n (by omega), gwI_n (by omega), gwI_n (by omega), gwI_n (by omega), gwI_s]
      · unfold fX9_village fX8_village; rw [gwI_n (by omega), gwI_n (by omega), gwI_n (by omega), gwI_n (by omega), gwI_n (by omega), gwI_n (by omega), gwI_n (by omega), gwI_s]
      · unfold fX9_village fX8_village; rw [gwI_n (by omega), gwI_n (by omega), gwI_n (by omega), gwI_n (by omega), gwI_s]
      · unfold fX9_village fX8_village; rw [gwI_n (by omega), gwI_n (by omega), gwI_n (by omega), gwI_s]
      · unfold fX9_village fX8_village; rw [gwI_n (by omega), gwI_n (by omega), gwI_s]
      · unfold fX9_village fX8_village; rw [gwI_n (by omega), gwI_s]
    · exact absurd ⟨c0.1, c0.2.1⟩ m1
  · rcases h2 with m0 | ⟨m1, rfl, rfl⟩
    · exact absurd ⟨m0.1, m0.2.1⟩ c1
    · exact ⟨rfl, Inv.t0 hR r⟩

set_option maxHeartbeats 1000000 in
theorem good_spring {M : gM} (hI : Inv M) (f p fa : Int32) : Good M [.int f, .int p, .int fa] 1 yX8_spring cX8_spring 6 .int 1 yX9_spring cX9_spring 4 .int := by
  obtain ⟨b, h, nv, ns, nt, nb, nd, nw, t, s, hR, r⟩ := hI
  have l := r.1
  have l1 := l.1
  have l2 := l.2.1
  have l3 := l.2.2.1
  have l4 := l.2.2.2.1
  have r2 := r.2.1
  refine ⟨_, ct_X8_spring hR r2.1 l.1 r2.2.1 l.2.1 r2.2.2.1 l.2.2.1 r2.2.2.2.1 l.2.2.2.1 f p fa, fun x1 M1 h1 => ?_⟩
  have hfm : FM M M1 := by
    rcases h1 with ⟨-, -, -, rfl⟩ | ⟨-, -, rfl⟩
    · refine ⟨fun k j hk => ?_, rfl⟩
      unfold fX8_spring
      rw [gwI_n (by omega), gwI_n (by omega), gwI_n (by omega), gwI_n (by omega), gwI_n (by omega)]
    · exact FM.rf
  have hR1 : M1.2.2 = stdR b := by
    rcases h1 with ⟨-, -, -, rfl⟩ | ⟨-, -, rfl⟩
    · exact hR
    · exact hR
  have rm := r.fm hfm
  have r3 := rm.2.2.1
  refine ⟨_, ct_X9_spring hR1 r3.1 l.1 r3.2.1 l.2.1 r3.2.2.1 l.2.2.1 r3.2.2.2.1 l.2.2.2.1 f p fa, fun x2 M2 h2 => ?_⟩
  rcases h1 with c0 | ⟨c1, rfl, rfl⟩
  · rcases h2 with m0 | ⟨m1, rfl, rfl⟩
    · obtain ⟨⟨v1, v2, v3⟩, v5, rfl, rfl⟩ := c0
      obtain ⟨-, -, rfl, rfl⟩ := m0
      obtain ⟨f, rfl, -, f2⟩ := rng (lo := 0) (hi := 100000) (by omega) (by omega) v1
      obtain ⟨p, rfl, p1, p2⟩ := rng (lo := 1) (hi := 200000) (by omega) (by omega) v2
      obtain ⟨fa, rfl, -, fa2⟩ := rng (lo := 0) (hi := 100) (by omega) (by omega) v3
      refine ⟨rfl, _, _, _, _, _, _, _, _, _, _, hR, up_spring (f := f) (p := p) (fa := fa) f2 ⟨p1, p2⟩ fa2 v5 r rfl ?_ ?_ ?_ ?_ ?_ ?_ ?_ ?_ ?_ ?_ ?_⟩
      · intro k j hn; unfold fX9_spring fX8_spring; rw [gwI_n (by omega), gwI_n (by omega), gwI_n (by omega), gwI_n (by omega), gwI_n (by omega), gwI_n (by omega), gwI_n (by omega), gwI_n (by omega), gwI_n (by omega), gwI_n (by omega), gwI_n (by omega)]
      · unfold fX9_spring fX8_spring; rw [gwI_n (by omega), gwI_n (by omega), gwI_n (by omega), gwI_n (by omega), gwI_n (by omega), gwI_n (by omega), gwI_s, nI_1]
      · unfold fX9_spring fX8_spring; rw [gwI_s, nI_1]
      · unfold fX9_spring fX8_spring; rw [gwI_n (by omega), gwI_n (by omega), gwI_n (by omega), gwI_n (by omega), gwI_n (by omega), gwI_n (by omega), gwI_n (by omega), gwI_n (by omega), gwI_n (by omega), gwI_n (by omega), gwI_s]
      · unfold fX9_spring fX8_spring; rw [gwI_n (by omega), gwI_n (by omega), gwI_n (by omega), gwI_n (by omega), gwI_n (by omega), gwI_n (by omega), gwI_n (by omega), gwI_n (by omega), gwI_n (by omega), gwI_s]
      · unfold fX9_spring fX8_spring; rw [gwI_n (by omega), gwI_n (by omega), gwI_n (by omega), gwI_n (by omega), gwI_n (by omega), gwI_n (by omega), gwI_n (by omega), gwI_n (by omega), gwI_s]
      · unfold fX9_spring fX8_spring; rw [gwI_n (by omega), gwI_n (by omega), gwI_n (by omega), gwI_n (by omega), gwI_n (by omega), gwI_n (by omega), gwI_n (by omega), gwI_s]
      · unfold fX9_spring fX8_spring; rw [gwI_n (by omega), gwI_n (by omega), gwI_n (by omega), gwI_n (by omega), gwI_s]
      · unfold fX9_spring fX8_spring; rw [gwI_n (by omega), gwI_n (by omega), gwI_n (by omega), gwI_s]
      · unfold fX9_spring fX8_spring; rw [gwI_n (by omega), gwI_n (by omega), gwI_s]
      · unfold fX9_spring fX8_spring; rw [gwI_n (by omega), gwI_s]
    · exact absurd ⟨c0.1, c0.2.1⟩ m1
  · rcases h2 with m0 | ⟨m1, rfl, rfl⟩
    · exact absurd ⟨m0.1, m0.2.1⟩ c1
    · exact ⟨rfl, Inv.t0 hR r⟩

set_option maxHeartbeats 1000000 in
theorem good_tanker {M : gM} (hI : Inv M) (sp g m : Int32) : Good M [.int sp, .int g, .int m] 2 yX8_tanker cX8_tanker 6 .int 1 yX9_tanker cX9_tanker 4 .int := by
  obtain ⟨b, h, nv, ns, nt, nb, nd, nw, t, s, hR, r⟩ := hI
  have l := r.1
  have l1 := l.1
  have l2 := l.2.1
  have l3 := l.2.2.1
  have l4 := l.2.2.2.1
  have r2 := r.2.1
  refine ⟨_, ct_X8_tanker hR r2.1 l.1 r2.2.1 l.2.1 r2.2.2.1 l.2.2.1 r2.2.2.2.1 l.2.2.2.1 sp g m, fun x1 M1 h1 => ?_⟩
  have hfm : FM M M1 := by
    rcases h1 with ⟨-, -, -, rfl⟩ | ⟨-, -, rfl⟩
    · refine ⟨fun k j hk => ?_, rfl⟩
      unfold fX8_tanker
      rw [gwI_n (by omega), gwI_n (by omega), gwI_n (by omega), gwI_n (by omega)]
    · exact FM.rf
  have hR1 : M1.2.2 = stdR b := by
    rcases h1 with ⟨-, -, -, rfl⟩ | ⟨-, -, rfl⟩
    · exact hR
    · exact hR
  have rm := r.fm hfm
  have r3 := rm.2.2.1
  refine ⟨_, ct_X9_tanker hR1 r3.1 l.1 r3.2.1 l.2.1 r3.2.2.1 l.2.2.1 r3.2.2.2.1 l.2.2.2.1 sp g m, fun x2 M2 h2 => ?_⟩
  rcases h1 with c0 | ⟨c1, rfl, rfl⟩
  · rcases h2 with m0 | ⟨m1, rfl, rfl⟩
    · obtain ⟨⟨⟨u, hu, rfl⟩, v2, v3⟩, v5, rfl, rfl⟩ := c0
      obtain ⟨-, -, rfl, rfl⟩ := m0
      obtain ⟨g, rfl, g1, g2⟩ := rng (lo := 1) (hi := 20000) (by omega) (by omega) v2
      obtain ⟨m, rfl, -, m2⟩ := rng (lo := 0) (hi := 999) (by omega) (by omega) v3
      refine ⟨rfl, _, _, _, _, _, _, _, _, _, _, hR, up_tanker (u := u) (g := g) (m := m) hu ⟨g1, g2⟩ m2 v5 r rfl ?_ ?_ ?_ ?_ ?_ ?_ ?_ ?_ ?_⟩
      · intro k j hn; unfold fX9_tanker fX8_tanker; rw [gwI_n (by omega), gwI_n (by omega), gwI_n (by omega), gwI_n (by omega), gwI_n (by omega), gwI_n (by omega), gwI_n (by omega), gwI_n (by omega), gwI_n (by omega)]
      · unfold fX9_tanker fX8_tanker; rw [gwI_n (by omega), gwI_n (by omega), gwI_n (by omega), gwI_n (by omega), gwI_n (by omega), gwI_s, nI_1]
      · unfold fX9_tanker fX8_tanker; rw [gwI_s, nI_1]
      · unfold fX9_tanker fX8_tanker; rw [gwI_n (by omega), gwI_n (by omega), gwI_n (by omega), gwI_n (by omega), gwI_n (by omega), gwI_n (by omega), gwI_n (by omega), gwI_n (by omega), gwI_s]
      · unfold fX9_tanker fX8_tanker; rw [gwI_n (by omega), gwI_n (by omega), gwI_n (by omega), gwI_n (by omega), gwI_n (by omega), gwI_n (by omega), gwI_n (by omega), gwI_s]
      · unfold fX9_tanker fX8_tanker; rw [gwI_n (by omega), gwI_n (by omega), gwI_n (by omega), gwI_n (by omega), gwI_n (by omega), gwI_n (by omega), gwI_s]
      · unfold fX9_tanker fX8_tanker; rw [gwI_n (by omega), gwI_n (by omega), gwI_n (by omega), gwI_s]
      · unfold fX9_tanker fX8_tanker; rw [gwI_n (by omega), gwI_n (by omega), gwI_s]
      · unfold fX9_tanker fX8_tanker; rw [gwI_n (by omega), gwI_s]
    · exact absurd ⟨c0.1, c0.2.1⟩ m1
  · rcases h2 with m0 | ⟨m1, rfl, rfl⟩
    · exact absurd ⟨m0.1, m0.2.1⟩ c1
    · exact ⟨rfl, Inv.t0 hR r⟩

set_option maxHeartbeats 1000000 in
theorem good_way {M : gM} (hI : Inv M) (sp v m : Int32) : Good M [.int sp, .int v, .int m] 2 yX8_way cX8_way 4 .boolean 1 yX9_way cX9_way 4 .boolean := by
  obtain ⟨b, h, nv, ns, nt, nb, nd, nw, t, s, hR, r⟩ := hI
  have l := r.1
  have l1 := l.1
  have l2 := l.2.1
  have l3 := l.2.2.1
  have l4 := l.2.2.2.1
  have r2 := r.2.1
  refine ⟨_, ct_X8_way hR r2.1 l.1 r2.2.1 l.2.1 r2.2.2.1 l.2.2.1 r2.2.2.2.1 l.2.2.2.1 sp v m, fun x1 M1 h1 => ?_⟩
  have hfm : FM M M1 := by
    rcases h1 with ⟨u9, w9, -, -, hu9, hw9, -, -, rfl⟩ | ⟨-, -, rfl⟩
    · refine ⟨fun k j hk => ?_, rfl⟩
      unfold fX8_way
      rw [gwI_n (by omega)]
    · exact FM.rf
  have hR1 : M1.2.2 = stdR b := by
    rcases h1 with ⟨u9, w9, -, -, hu9, hw9, -, -, rfl⟩ | ⟨-, -, rfl⟩
    · exact hR
    · exact hR
  have rm := r.fm hfm
  have r3 := rm.2.2.1
  refine ⟨_, ct_X9_way hR1 r3.1 l.1 r3.2.1 l.2.1 r3.2.2.1 l.2.2.1 r3.2.2.2.1 l.2.2.2.1 sp v m, fun x2 M2 h2 => ?_⟩
  rcases h1 with c0 | ⟨c1, rfl, rfl⟩
  · rcases h2 with m0 | ⟨m1, rfl, rfl⟩
    · obtain ⟨u, w, rfl, rfl, hu, hw, v1, rfl, rfl⟩ := c0
      obtain ⟨u', w', e1, e2, hu', hw', -, rfl, rfl⟩ := m0
      obtain ⟨m, rfl, g1, g2⟩ := rng (lo := 1) (hi := 200) (by omega) (by omega) v1.2.2
      have l1 := l.1
      have l2 := l.2.1
      obtain rfl : u = u' := by
        exact neq_t (by omega) (by omega) e1
      obtain rfl : w = w' := neq_t (by omega) (by omega) e2
      refine ⟨rfl, _, _, _, _, _, _, _, _, _, _, hR, up_way (u := u) (v := w) (m := m) (by omega) (by omega) ⟨g1, g2⟩ r rfl ?_ ?_ ?_⟩
      · intro k j hn; unfold fX9_way fX8_way; rw [gwI_n (by omega), gwI_n (by omega), gwI_n (by omega)]
      · unfold fX9_way fX8_way; rw [gwI_n (by omega), gwI_n (by omega), gwI_s]
      · unfold fX9_way fX8_way; rw [gwI_s]
    · exact absurd c0.choose_spec.choose_spec.2.2.2.2.1 m1
  · rcases h2 with m0 | ⟨m1, rfl, rfl⟩
    · exact absurd m0.choose_spec.choose_spec.2.2.2.2.1 c1
    · exact ⟨rfl, Inv.t0 hR r⟩

set_option maxHeartbeats 1000000 in
theorem good_bore {M : gM} (hI : Inv M) (v ch co : Int32) : Good M [.int v, .int ch, .int co] 2 yX8_bore cX8_bore 6 .int 1 yX9_bore cX9_bore 4 .int := by
  obtain ⟨b, h, nv, ns, nt, nb, nd, nw, t, s, hR, r⟩ := hI
  have l := r.1
  have l1 := l.1
  have l2 := l.2.1
  have l3 := l.2.2.1
  have l4 := l.2.2.2.1
  have r2 := r.2.1
  refine ⟨_, ct_X8_bore hR r2.1 l.1 r2.2.1 l.2.1 r2.2.2.1 l.2.2.1 r2.2.2.2.1 l.2.2.2.1 v ch co, fun x1 M1 h1 => ?_⟩
  have hfm : FM M M1 := by
    rcases h1 with ⟨u9, -, -, -, hn9, -, rfl⟩ | ⟨-, -, rfl⟩
    · refine ⟨fun k j hk => ?_, rfl⟩
      unfold fX8_bore
      rw [gwI_n (by omega), gwI_n (by omega), gwI_n (by omega), gwI_n (by omega)]
    · exact FM.rf
  have hR1 : M1.2.2 = stdR b := by
    rcases h1 with ⟨u9, -, -, -, hn9, -, rfl⟩ | ⟨-, -, rfl⟩
    · exact hR
    · exact hR
  have rm := r.fm hfm
  have r3 := rm.2.2.1
  refine ⟨_, ct_X9_bore hR1 r3.1 l.1 r3.2.1 l.2.1 r3.2.2.1 l.2.2.1 r3.2.2.2.1 l.2.2.2.1 v ch co, fun x2 M2 h2 => ?_⟩
  rcases h1 with c0 | ⟨c1, rfl, rfl⟩
  · rcases h2 with m0 | ⟨m1, rfl, rfl⟩
    · obtain ⟨u, rfl, hu, v1, v5, rfl, rfl⟩ := c0
      obtain ⟨-, -, rfl, rfl⟩ := m0
      obtain ⟨ch, rfl, h1, h2⟩ := rng (lo := 1) (hi := 1000) (by omega) (by omega) v1.2.1
      obtain ⟨co, rfl, o1, o2⟩ := rng (lo := 1) (hi := 1000) (by omega) (by omega) v1.2.2
      have l1 := l.1
      refine ⟨rfl, _, _, _, _, _, _, _, _, _, _, hR, up_bore (u := u) (ch := ch) (co := co) hu ⟨h1, h2⟩ ⟨o1, o2⟩ v5 r rfl ?_ ?_ ?_ ?_ ?_ ?_ ?_ ?_ ?_⟩
      · intro k j hn; unfold fX9_bore fX8_bore; rw [gwI_n (by omega), gwI_n (by omega), gwI_n (by omega), gwI_n (by omega), gwI_n (by omega), gwI_n (by omega), gwI_n (by omega), gwI_n (by omega), gwI_n (by omega)]
      · unfold fX9_bore fX8_bore; rw [gwI_n (by omega), gwI_n (by omega), gwI_n (by omega), gwI_n (by omega), gwI_n (by omega), gwI_s, nI_1]
      · unfold fX9_bore fX8_bore; rw [gwI_s, nI_1]
      · unfold fX9_bore fX8_bore; rw [gwI_n (by omega), gwI_n (by omega), gwI_n (by omega), gwI_n (by omega), gwI_n (by omega), gwI_n (by omega), gwI_n (by omega), gwI_n (by omega), gwI_s]
      · unfold fX9_bore fX8_bore; rw [gwI_n (by omega), gwI_n (by omega), gwI_n (by omega), gwI_n (by omega), gwI_n (by omega), gwI_n (by omega), gwI_n (by omega), gwI_s]
      · unfold fX9_bore fX8_bore; rw [gwI_n (by omega), gwI_n (by omega), gwI_n (by omega), gwI_n (by omega), gwI_n (by omega), gwI_n (by omega), gwI_s]
      · unfold fX9_bore fX8_bore; rw [gwI_n (by omega), gwI_n (by omega), gwI_n (by omega), gwI_s]
      · unfold fX9_bore fX8_bore; rw [gwI_n (by omega), gwI_n (by omega), gwI_s]
      · unfold fX9_bore fX8_bore; rw [gwI_n (by omega), gwI_s]
    · exact absurd ⟨c0.choose_spec.2.2.1, c0.choose_spec.2.2.2.1⟩ m1
  · rcases h2 with m0 | ⟨m1, rfl, rfl⟩
    · exact absurd ⟨m0.1, m0.2.1⟩ c1
    · exact ⟨rfl, Inv.t0 hR r⟩

set_option maxHeartbeats 1000000 in
theorem good_dip {M : gM} (hI : Inv M) (tq tl di er : Int32) : Good M [.int tq, .int tl, .int di, .int er] 2 yX8_dip cX8_dip 7 .int 1 yX9_dip cX9_dip 5 .int := by
  obtain ⟨b, h, nv, ns, nt, nb, nd, nw, t, s, hR, r⟩ := hI
  have l := r.1
  have l1 := l.1
  have l2 := l.2.1
  have l3 := l.2.2.1
  have l4 := l.2.2.2.1
  have r2 := r.2.1
  refine ⟨_, ct_X8_dip hR r2.1 l.1 r2.2.1 l.2.1 r2.2.2.1 l.2.2.1 r2.2.2.2.1 l.2.2.2.1 r2.2.2.2.2.1 l.2.2.2.2.1 tq tl di er, fun x1 M1 h1 => ?_⟩
  have hfm : FM M M1 := by
    rcases h1 with ⟨u9, -, hu9, -, -, -, rfl⟩ | ⟨-, -, rfl⟩
    · refine ⟨fun k j hk => ?_, rfl⟩
      unfold fX8_dip
      rw [gwI_n (by omega), gwI_n (by omega), gwI_n (by omega), gwI_n (by omega)]
    · exact FM.rf
  have hR1 : M1.2.2 = stdR b := by
    rcases h1 with ⟨u9, -, hu9, -, -, -, rfl⟩ | ⟨-, -, rfl⟩
    · exact hR
    · exact hR
  have rm := r.fm hfm
  have r3 := rm.2.2.1
  refine ⟨_, ct_X9_dip hR1 r3.1 l.1 r3.2.1 l.2.1 r3.2.2.1 l.2.2.1 r3.2.2.2.1 l.2.2.2.1 r3.2.2.2.2.1 l.2.2.2.2.1 tq tl di er, fun x2 M2 h2 => ?_⟩
  rcases h1 with c0 | ⟨c1, rfl, rfl⟩
  · rcases h2 with m0 | ⟨m1, rfl, rfl⟩
    · obtain ⟨u, rfl, hu, v1, v5, rfl, rfl⟩ := c0
      obtain ⟨u', e1, hu', -, -, rfl, rfl⟩ := m0
      have l3 := l.2.2.1
      obtain rfl : u = u' := neq_t (by omega) (by omega) e1
      obtain ⟨-, -, -, -, -, -, t6, t7, t8⟩ := r.2.2.2.2.2.2.2.1 u (by omega)
      refine ⟨by unfold fX8_dip; rw [gwI_n (by omega), gwI_n (by omega), gwI_n (by omega), gwI_n (by omega), t6], _, _, _, _, _, _, _, _, _, _, hR, up_dip (q := u) (by omega) v5 r rfl ?_ ?_ ?_ ?_ ?_ ?_⟩
      · intro k j hn; unfold fX9_dip fX8_dip; rw [gwI_n (by omega), gwI_n (by omega), gwI_n (by omega), gwI_n (by omega), gwI_n (by omega), gwI_n (by omega), gwI_n (by omega), gwI_n (by omega), gwI_n (by omega)]
      · unfold fX9_dip fX8_dip; rw [gwI_n (by omega), gwI_n (by omega), gwI_n (by omega), gwI_n (by omega), gwI_n (by omega), gwI_s, nI_1]
      · unfold fX9_dip fX8_dip; rw [gwI_s, nI_1]
      · unfold fX9_dip fX8_dip; rw [gwI_n (by omega), gwI_n (by omega), gwI_n (by omega), gwI_n (by omega), gwI_n (by omega), gwI_n (by omega), gwI_n (by omega), gwI_n (by omega), gwI_s, gwI_n (by omega), gwI_s, gwI_n (by omega), gwI_n (by omega), gwI_n (by omega), gwI_n (by omega), t6]
      · unfold fX9_dip fX8_dip; rw [gwI_n (by omega), gwI_n (by omega), gwI_n (by omega), gwI_n (by omega), gwI_n (by omega), gwI_n (by omega), gwI_n (by omega), gwI_s, gwI_n (by omega), gwI_n (by omega), gwI_n (by omega), gwI_s, gwI_n (by omega), gwI_n (by omega), gwI_n (by omega), gwI_n (by omega), t7]
      · unfold fX9_dip fX8_dip; rw [gwI_n (by omega), gwI_n (by omega), gwI_n (by omega), gwI_n (by omega), gwI_n (by omega), gwI_n (by omega), gwI_s, gwI_n (by omega), gwI_n (by omega), gwI_s, gwI_n (by omega), gwI_n (by omega), gwI_n (by omega), gwI_n (by omega), t8]
    · exact absurd ⟨c0.choose_spec.2.2.1, c0.choose_spec.2.2.2.1⟩ m1
  · rcases h2 with m0 | ⟨m1, rfl, rfl⟩
    · exact absurd ⟨m0.choose_spec.2.2.1, m0.choose_spec.2.2.2.1⟩ c1
    · exact ⟨rfl, Inv.t0 hR r⟩


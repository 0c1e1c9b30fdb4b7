theorem r_getIv {d mc ms : Nat} {own : String} {cc : ByteArray} {nL : Nat} {G : gJ} (hG : gS d mc ms own cc nL G) {Z : Nat × Nat × Nat} {pc : Nat} {L : List (Option Value)} {st : List Value} {M : gM} {k ci index z : Nat} (j : Nat) (x : Int32) (hf : gFk own index ci j) (hd : decode cc pc = .ok (.getfield index, 3)) (hkd : gK k = (0, ci, z)) (hk : k < Z.1) (hc : gfc ci j = false) (hv : M.1 k j = x) (kk : G Z (pc + 3) L (.int x :: st) M) : G Z pc L (.ref k :: st) M := r_getI hG j hf hd hkd hk hc (by rw [hv]; exact kk)
theorem r_ialdv {d mc ms : Nat} {own : String} {cc : ByteArray} {nL : Nat} {G : gJ} (hG : gS d mc ms own cc nL G) {Z : Nat × Nat × Nat} {pc : Nat} {L : List (Option Value)} {st : List Value} {M : gM} {k n : Nat} {i : Int32} (q : Nat) (x : Int32) (hd : decode cc pc = .ok (.iaload, 1)) (hkd : gK k = (1, 0, n)) (hk : k < Z.1) (hi : i = nI q) (hq : q < n) (hn : n < 2147483648) (hv : M.1 k q = x) (kk : G Z (pc + 1) L (.int x :: st) M) : G Z pc L (.int i :: .ref k :: st) M := r_iald hG q hd hkd hk hi hq hn (by rw [hv]; exact kk)
theorem r_caldv {d mc ms : Nat} {own : String} {cc : ByteArray} {nL : Nat} {G : gJ} (hG : gS d mc ms own cc nL G) {Z : Nat × Nat × Nat} {pc : Nat} {L : List (Option Value)} {st : List Value} {M : gM} {k n : Nat} {i : Int32} (q : Nat) (x : Int32) (hd : decode cc pc = .ok (.caload, 1)) (hkd : gK k = (1, 2, n)) (hk : k < Z.1) (hi : i = nI q) (hq : q < n) (hn : n < 2147483648) (hv : M.1 k q = x) (kk : G Z (pc + 1) L (.int x :: st) M) : G Z pc L (.int i :: .ref k :: st) M := r_cald hG q hd hkd hk hi hq hn (by rw [hv]; exact kk)
theorem r_zaldv {d mc ms : Nat} {own : String} {cc : ByteArray} {nL : Nat} {G : gJ} (hG : gS d mc ms own cc nL G) {Z : Nat × Nat × Nat} {pc : Nat} {L : List (Option Value)} {st : List Value} {M : gM} {k n : Nat} {i : Int32} (q : Nat) (x : Int32) (hd : decode cc pc = .ok (.baload, 1)) (hkd : gK k = (1, 3, n)) (hk : k < Z.1) (hi : i = nI q) (hq : q < n) (hn : n < 2147483648) (hv : M.1 k q = x) (kk : G Z (pc + 1) L (.int x :: st) M) : G Z pc L (.int i :: .ref k :: st) M := r_zald hG q hd hkd hk hi hq hn (by rw [hv]; exact kk)
theorem r_laldv {d mc ms : Nat} {own : String} {cc : ByteArray} {nL : Nat} {G : gJ} (hG : gS d mc ms own cc nL G) {Z : Nat × Nat × Nat} {pc : Nat} {L : List (Option Value)} {st : List Value} {M : gM} {k n : Nat} {i : Int32} (q : Nat) (x : Int64) (hd : decode cc pc = .ok (.laload, 1)) (hkd : gK k = (2, 1, n)) (hk : k < Z.1) (hi : i = nI q) (hq : q < n) (hn : n < 2147483648) (hv : M.2.1 k q = x) (kk : G Z (pc + 1) L (.long x :: st) M) : G Z pc L (.int i :: .ref k :: st) M := r_lald hG q hd hkd hk hi hq hn (by rw [hv]; exact kk)
theorem gwL_s {M : gM} {k j : Nat} {v : Int64} : (gwL M k j v).2.1 k j = v := by simp [gwL]
theorem gwL_n {M : gM} {k j a b : Nat} {v : Int64} (h : ¬ (a = k ∧ b = j)) : (gwL M k j v).2.1 a b = M.2.1 a b := by simp [gwL, h]
theorem gwI_rd {M : gM} {k j a b : Nat} {v : Int32} : (gwI M k j v).1 a b = if a = k ∧ b = j then v else M.1 a b := rfl
def mmin (x y : Int32) : Int32 := if y < x then y else x
def mmax (x y : Int32) : Int32 := if x < y then y else x
/-- a boolean answer -/
def bI (A : Prop) (x : Int32) : Prop := (x = 1 ∧ A) ∨ (x = 0 ∧ ¬ A)
theorem nlt_t {a b : Nat} (ha : a < 2147483648) (hb : b < 2147483648) (h : nI a < nI b) : a < b := (nI_ltI ha hb).mp h
theorem nlt_f {a b : Nat} (ha : a < 2147483648) (hb : b < 2147483648) (h : ¬ nI a < nI b) : b ≤ a := Nat.not_lt.mp fun q => h ((nI_ltI ha hb).mpr q)
theorem nle_t {a b : Nat} (ha : a < 2147483648) (hb : b < 2147483648) (h : nI a ≤ nI b) : a ≤ b := (nI_leI ha hb).mp h
theorem nle_f {a b : Nat} (ha : a < 2147483648) (hb : b < 2147483648) (h : ¬ nI a ≤ nI b) : b < a := Nat.not_le.mp fun q => h ((nI_leI ha hb).mpr q)
theorem neq_t {a b : Nat} (ha : a < 2147483648) (hb : b < 2147483648) (h : nI a = nI b) : a = b := (nI_eq ha hb).mp h
theorem neq_f {a b : Nat} (ha : a < 2147483648) (hb : b < 2147483648) (h : ¬ nI a = nI b) : a ≠ b := fun q => h ((nI_eq ha hb).mpr q)
/-- a value on the stack under another name -/
theorem r_top {G : gJ} {Z : Nat × Nat × Nat} {pc : Nat} {L : List (Option Value)} {st : List Value} {M : gM} {x : Int32} (y : Int32) (h : x = y) (kk : G Z pc L (.int y :: st) M) : G Z pc L (.int x :: st) M := h ▸ kk
theorem r_mem {G : gJ} {Z : Nat × Nat × Nat} {pc : Nat} {L : List (Option Value)} {st : List Value} {M : gM} (M2 : gM) (h : M = M2) (kk : G Z pc L st M2) : G Z pc L st M := h ▸ kk
theorem r_loc {G : gJ} {Z : Nat × Nat × Nat} {pc : Nat} {L : List (Option Value)} {st : List Value} {M : gM} (L2 : List (Option Value)) (h : L = L2) (kk : G Z pc L2 st M) : G Z pc L st M := h ▸ kk
theorem gkV {i : Nat} (h : i < 12) : gK (2 * i + 42) = (0, 7, 0) := (by decide : ∀ i, i < 12 → gK (2 * i + 42) = (0, 7, 0)) i h
theorem gkW {i : Nat} (h : i < 12) : gK (2 * i + 43) = (1, 0, 7) := (by decide : ∀ i, i < 12 → gK (2 * i + 43) = (1, 0, 7)) i h
theorem gkS {i : Nat} (h : i < 4) : gK (2 * i + 66) = (0, 4, 0) := (by decide : ∀ i, i < 4 → gK (2 * i + 66) = (0, 4, 0)) i h
theorem gkY {i : Nat} (h : i < 4) : gK (2 * i + 67) = (1, 0, 12) := (by decide : ∀ i, i < 4 → gK (2 * i + 67) = (1, 0, 12)) i h
theorem gkT {i : Nat} (h : i < 4) : gK (i + 74) = (0, 5, 0) := (by decide : ∀ i, i < 4 → gK (i + 74) = (0, 5, 0)) i h
theorem gkB {i : Nat} (h : i < 10) : gK (i + 78) = (0, 0, 0) := (by decide : ∀ i, i < 10 → gK (i + 78) = (0, 0, 0)) i h
theorem gkR {i : Nat} (h : i < 6) : gK (i + 32) = (1, 0, 4) := (by decide : ∀ i, i < 6 → gK (i + 32) = (1, 0, 4)) i h
theorem gkO {o : Nat} (h : o = 11 ∨ o = 17) : gK o = (0, 1, 0) := by rcases h with rfl | rfl <;> rfl
theorem gkO1 {o : Nat} (h : o = 11 ∨ o = 17) : gK (o + 1) = (1, 0, 16) := by rcases h with rfl | rfl <;> rfl
theorem gkO2 {o : Nat} (h : o = 11 ∨ o = 17) : gK (o + 2) = (1, 0, 16) := by rcases h with rfl | rfl <;> rfl
theorem gkO3 {o : Nat} (h : o = 11 ∨ o = 17) : gK (o + 3) = (1, 0, 16) := by rcases h with rfl | rfl <;> rfl
theorem gkO4 {o : Nat} (h : o = 11 ∨ o = 17) : gK (o + 4) = (1, 0, 600) := by rcases h with rfl | rfl <;> rfl
theorem gkO5 {o : Nat} (h : o = 11 ∨ o = 17) : gK (o + 5) = (1, 0, 32) := by rcases h with rfl | rfl <;> rfl
theorem sr {M : gM} {b : Bool} {k j k2 : Nat} (hR : M.2.2 = stdR b) (h : stdR b k j = some k2) : M.2.2 k j = some k2 := by rw [hR]; exact h
theorem sRw {b : Bool} {i : Nat} (h : i < 12) : stdR b (2 * i + 42) 10 = some (2 * i + 43) := (by decide : ∀ b, ∀ i, i < 12 → stdR b (2 * i + 42) 10 = some (2 * i + 43)) b i h
theorem sRy {b : Bool} {i : Nat} (h : i < 4) : stdR b (2 * i + 66) 4 = some (2 * i + 67) := (by decide : ∀ b, ∀ i, i < 4 → stdR b (2 * i + 66) 4 = some (2 * i + 67)) b i h
theorem sRo {b : Bool} {o j : Nat} (h : o = 11 ∨ o = 17) : stdR b o j = some (o + (j + 1)) := by
  rcases h with rfl | rfl <;> simp [stdR] <;> omega
theorem gwI_s {M : gM} {k j : Nat} {v : Int32} : (gwI M k j v).1 k j = v := by simp [gwI]
theorem gwI_n {M : gM} {k j a b : Nat} {v : Int32} (h : ¬ (a = k ∧ b = j)) : (gwI M k j v).1 a b = M.1 a b := by simp [gwI, h]

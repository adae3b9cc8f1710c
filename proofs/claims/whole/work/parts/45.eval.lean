/-! The reference: what a text works out, units. -/
variable {h : j_Hd} {M : Nat → Nat → Int32} {σ : j_St} {d o bs : Nat} {B : Nat → Nat} {n u : Nat} {a b c : Int32}
def Fy (M : Nat → Nat → Int32) (o bs : Nat) (B : Nat → Nat) (n u : Nat) (a b c : Int32) : Prop := bs + n ≤ 250 ∧ n ≤ 50 ∧ u < 2 ∧ M o 5 = nI bs ∧ M o 7 = nI n ∧ M o 10 = nI u ∧ M (o + 5) 0 = a ∧ M (o + 5) 1 = b ∧ M (o + 5) 2 = c ∧ ∀ i, i < n → M (o + 1) (bs + i) = nI (B i) ∧ B i < 256
def vf (o : Nat) (M M' : Nat → Nat → Int32) : Prop := (∀ x, x ≠ o → M' x = M x) ∧ ∀ k, k ≠ 6 → k ≠ 8 → k ≠ 9 → M' o k = M o k
theorem vf_r : vf o M M := ⟨fun _ _ => rfl, fun _ _ _ _ => rfl⟩
theorem vf_t {M1 M2 M3 : Nat → Nat → Int32} (h1 : vf o M1 M2) (h2 : vf o M2 M3) : vf o M1 M3 := ⟨fun x e => by rw [h2.1 x e, h1.1 x e], fun k e1 e2 e3 => by rw [h2.2 k e1 e2 e3, h1.2 k e1 e2 e3]⟩
theorem vf_6 {v : Int32} : vf o M (j_up M o 6 v) := ⟨fun x e => up_r _ _ _ _ e, fun k e _ _ => up_k _ _ _ _ e⟩
theorem vf_8 {v : Int32} : vf o M (j_up M o 8 v) := ⟨fun x e => up_r _ _ _ _ e, fun k _ e _ => up_k _ _ _ _ e⟩
theorem vf_9 {v : Int32} : vf o M (j_up M o 9 v) := ⟨fun x e => up_r _ _ _ _ e, fun k _ _ e => up_k _ _ _ _ e⟩
theorem Fy_vf {M' : Nat → Nat → Int32} (hf : Fy M o bs B n u a b c) (hr : vf o M M') : Fy M' o bs B n u a b c := by
  obtain ⟨a1, a2, a3, a4, a5, a6, a7, a8, a9, a10⟩ := hf
  refine ⟨a1, a2, a3, ?_, ?_, ?_, ?_, ?_, ?_, ?_⟩
  · rw [hr.2 5 (by omega) (by omega) (by omega)]; exact a4
  · rw [hr.2 7 (by omega) (by omega) (by omega)]; exact a5
  · rw [hr.2 10 (by omega) (by omega) (by omega)]; exact a6
  · rw [hr.1 (o + 5) (by omega)]; exact a7
  · rw [hr.1 (o + 5) (by omega)]; exact a8
  · rw [hr.1 (o + 5) (by omega)]; exact a9
  · rw [hr.1 (o + 1) (by omega)]; exact a10
theorem Fy_B (hf : Fy M o bs B n u a b c) : ∀ i, i < n → B i < 256 := fun i hi => (hf.2.2.2.2.2.2.2.2.2 i hi).2
/-- what a working leaves -/
def Vo (o : Nat) (M M' : Nat → Nat → Int32) (r : tR) (v a b c : Int32) : Prop := vf o M M' ∧ (r.1 = true → (∀ l, r.2.2.foldl (stp a b c) l = v :: l) ∧ M' o 6 = nI r.2.1 ∧ M' o 8 = -1 ∧ M' o 9 = M o 9) ∧ (r.1 = false → M' o 8 = nI r.2.1)
def VOk (h : j_Hd) (o bs : Nat) (B : Nat → Nat) (n u : Nat) (a b c : Int32) (D mi k : Nat) (P : Nat → tR) : Prop := ∀ e, D ≤ e → ∀ q M, Fy M o bs B n u a b c → M o 6 = nI q → M o 8 = -1 → M o 9 = nI (5 - k) → q ≤ n → ∃ v M', j_C e mi [.ref o] (FS h M) = some (some (.int v), FS h M') ∧ Vo o M M' (P q) v a b c
theorem r151 (hk : Md h o) (hf : Fy M o bs B n u a b c) {q : Nat} (hq : M o 6 = nI q) (h8 : M o 8 = -1) (hqn : q ≤ n) {e : Nat} (he : 1 ≤ e) : j_C e 151 [.ref o] (FS h M) = some (some (.int (bI (nx B n q))), FS h M) := by
  obtain ⟨d, rfl⟩ : ∃ d, e = d + 1 := ⟨e - 1, by omega⟩
  obtain ⟨m0, ⟨q0, k1, k2, k3⟩, _⟩ := id hk
  obtain ⟨a1, a2, a3, a4, a5, a6, a7, a8, a9, a10⟩ := hf
  have f5 : (-1 : Int32) < nI 0 := by decide +kernel
  rw [j_C_eq]
  unfold nx
  by_cases cc : q < n
  · have g := a10 q cc
    have ix : bs + q < 250 := by omega
    rw [if_pos cc, bI_lt g.2]
    simp (disch := omega) only [st_151_0, st_151_1, st_151_4, st_151_5, st_151_8, st_151_11, st_151_12, st_151_15, st_151_18, st_151_19, st_151_22, st_151_23, st_151_26, st_151_27, st_151_30, st_151_31, st_151_32, st_151_35, st_151_36, ini_151, fs_cl, fs_len, fs_rf, fs_M, fs_put, fs_cpy, ↓reduceIte, rv_ref, true_or, or_true, true_and, and_true, nI_ltI, ix_nI, nI_clamp, ps_i, ps_n, Option.bind_some, sm_0, sm_1, sm_2, sm_3, sm_4, sto_0, sto_1, sto_2, sto_3, sto_4, sto_5, sto_6, sto_7, sto_8, sto_9, sto_10, sto_11, sto_12, sto_13, sto_14, nlo_n, nlo_i, nlo_r, nlo_0, nlo_l, and_self, or_self, Nat.reduceEqDiff, Nat.reduceLT, Nat.reduceLeDiff, Nat.one_ne_zero, Nat.zero_ne_one, m0, q0, k1, k2, hq, h8, a4, a5, f5, cc, nI_add, g.1, ix]
  · rw [if_neg cc]
    have e2 : bI 256 = -1 := by decide +kernel
    simp (disch := omega) only [st_151_0, st_151_1, st_151_4, st_151_5, st_151_8, st_151_11, st_151_12, st_151_15, st_151_18, st_151_19, st_151_22, st_151_23, st_151_26, st_151_27, st_151_30, st_151_31, st_151_32, st_151_35, st_151_36, ini_151, fs_cl, fs_len, fs_rf, fs_M, fs_put, fs_cpy, ↓reduceIte, rv_ref, true_or, or_true, true_and, and_true, nI_ltI, ix_nI, nI_clamp, ps_i, ps_n, Option.bind_some, sm_0, sm_1, sm_2, sm_3, sm_4, sto_0, sto_1, sto_2, sto_3, sto_4, sto_5, sto_6, sto_7, sto_8, sto_9, sto_10, sto_11, sto_12, sto_13, sto_14, nlo_n, nlo_i, nlo_r, nlo_0, nlo_l, and_self, or_self, Nat.reduceEqDiff, Nat.reduceLT, Nat.reduceLeDiff, Nat.one_ne_zero, Nat.zero_ne_one, m0, hq, a5, cc, e2]
theorem r151f (hk : Md h o) {j : Nat} (h8 : M o 8 = nI j) (hj : j < 1000) {e : Nat} (he : 1 ≤ e) : j_C e 151 [.ref o] (FS h M) = some (some (.int (-1)), FS h M) := by
  obtain ⟨d, rfl⟩ : ∃ d, e = d + 1 := ⟨e - 1, by omega⟩
  have m0 := hk.1
  have f5 : ¬ nI j < nI 0 := nI_nlt (by omega) (by omega)
  rw [j_C_eq]
  by_cases cc : M o 6 < M o 7
  · simp (disch := omega) only [st_151_0, st_151_1, st_151_4, st_151_5, st_151_8, st_151_11, st_151_12, st_151_15, st_151_18, st_151_19, st_151_22, st_151_23, st_151_26, st_151_27, st_151_30, st_151_31, st_151_32, st_151_35, st_151_36, ini_151, fs_cl, fs_len, fs_rf, fs_M, fs_put, fs_cpy, ↓reduceIte, rv_ref, true_or, or_true, true_and, and_true, nI_ltI, ix_nI, nI_clamp, ps_i, ps_n, Option.bind_some, sm_0, sm_1, sm_2, sm_3, sm_4, sto_0, sto_1, sto_2, sto_3, sto_4, sto_5, sto_6, sto_7, sto_8, sto_9, sto_10, sto_11, sto_12, sto_13, sto_14, nlo_n, nlo_i, nlo_r, nlo_0, nlo_l, and_self, or_self, Nat.reduceEqDiff, Nat.reduceLT, Nat.reduceLeDiff, Nat.one_ne_zero, Nat.zero_ne_one, m0, h8, cc, f5]
  · simp (disch := omega) only [st_151_0, st_151_1, st_151_4, st_151_5, st_151_8, st_151_11, st_151_12, st_151_15, st_151_18, st_151_19, st_151_22, st_151_23, st_151_26, st_151_27, st_151_30, st_151_31, st_151_32, st_151_35, st_151_36, ini_151, fs_cl, fs_len, fs_rf, fs_M, fs_put, fs_cpy, ↓reduceIte, rv_ref, true_or, or_true, true_and, and_true, nI_ltI, ix_nI, nI_clamp, ps_i, ps_n, Option.bind_some, sm_0, sm_1, sm_2, sm_3, sm_4, sto_0, sto_1, sto_2, sto_3, sto_4, sto_5, sto_6, sto_7, sto_8, sto_9, sto_10, sto_11, sto_12, sto_13, sto_14, nlo_n, nlo_i, nlo_r, nlo_0, nlo_l, and_self, or_self, Nat.reduceEqDiff, Nat.reduceLT, Nat.reduceLeDiff, Nat.one_ne_zero, Nat.zero_ne_one, m0, cc]
theorem up_self {o k : Nat} {v : Int32} (hv : M o k = v) : j_up M o k v = M := by
  funext x y
  by_cases e : x = o
  · subst e
    by_cases e2 : y = k
    · subst e2; rw [up_s, hv]
    · exact up_k _ _ _ _ e2
  · exact up_o _ _ _ _ _ e
theorem r152 (hk : Md h o) {q : Nat} (hq : M o 6 = nI q) (h8 : M o 8 = -1) {e : Nat} (he : 1 ≤ e) : j_C e 152 [.ref o] (FS h M) = some (some (.int (nI 0)), FS h (j_up M o 8 (nI q))) := by
  obtain ⟨d, rfl⟩ : ∃ d, e = d + 1 := ⟨e - 1, by omega⟩
  have m0 := hk.1
  have f5 : (-1 : Int32) < nI 0 := by decide +kernel
  rw [j_C_eq]
  simp (disch := omega) only [st_152_0, st_152_1, st_152_2, st_152_5, st_152_8, st_152_9, st_152_12, st_152_15, st_152_16, st_152_19, st_152_22, st_152_23, ini_152, fs_cl, fs_len, fs_rf, fs_M, fs_put, fs_cpy, ↓reduceIte, rv_ref, true_or, or_true, true_and, and_true, nI_ltI, ix_nI, nI_clamp, ps_i, ps_n, Option.bind_some, sm_0, sm_1, sm_2, sm_3, sm_4, sto_0, sto_1, sto_2, sto_3, sto_4, sto_5, sto_6, sto_7, sto_8, sto_9, sto_10, sto_11, sto_12, sto_13, sto_14, nlo_n, nlo_i, nlo_r, nlo_0, nlo_l, and_self, or_self, Nat.reduceEqDiff, Nat.reduceLT, Nat.reduceLeDiff, Nat.one_ne_zero, Nat.zero_ne_one, m0, hq, h8, f5]
theorem r152f (hk : Md h o) {j : Nat} (h8 : M o 8 = nI j) (hj : j < 1000) {e : Nat} (he : 1 ≤ e) : j_C e 152 [.ref o] (FS h M) = some (some (.int (nI 0)), FS h M) := by
  obtain ⟨d, rfl⟩ : ∃ d, e = d + 1 := ⟨e - 1, by omega⟩
  have m0 := hk.1
  have f5 : ¬ nI j < nI 0 := nI_nlt (by omega) (by omega)
  have us := up_self h8
  rw [j_C_eq]
  simp (disch := omega) only [st_152_0, st_152_1, st_152_2, st_152_5, st_152_8, st_152_9, st_152_12, st_152_15, st_152_16, st_152_19, st_152_22, st_152_23, ini_152, fs_cl, fs_len, fs_rf, fs_M, fs_put, fs_cpy, ↓reduceIte, rv_ref, true_or, or_true, true_and, and_true, nI_ltI, ix_nI, nI_clamp, ps_i, ps_n, Option.bind_some, sm_0, sm_1, sm_2, sm_3, sm_4, sto_0, sto_1, sto_2, sto_3, sto_4, sto_5, sto_6, sto_7, sto_8, sto_9, sto_10, sto_11, sto_12, sto_13, sto_14, nlo_n, nlo_i, nlo_r, nlo_0, nlo_l, and_self, or_self, Nat.reduceEqDiff, Nat.reduceLT, Nat.reduceLeDiff, Nat.one_ne_zero, Nat.zero_ne_one, m0, h8, f5, us]
theorem r153y (hk : Md h o) (hf : Fy M o bs B n u a b c) {q x : Nat} (hq : M o 6 = nI q) (h8 : M o 8 = -1) (hqn : q ≤ n) (hx : x < 256) (he : nx B n q = x) {e : Nat} (h2 : 2 ≤ e) : j_C e 153 [.ref o, .int (nI x)] (FS h M) = some (some (.int (nI 1)), FS h (j_up M o 6 (nI (q + 1)))) := by
  obtain ⟨d, rfl⟩ : ∃ d, e = d + 1 := ⟨e - 1, by omega⟩
  have m0 := hk.1
  have g := r151 hk hf hq h8 hqn (e := d) (by omega)
  rw [he, bI_lt hx] at g
  rw [j_C_eq]
  simp (disch := omega) only [st_153_0, st_153_1, st_153_4, st_153_5, st_153_8, st_153_9, st_153_10, st_153_11, st_153_11r, st_153_12, st_153_15, st_153_16, st_153_17, st_153_20, st_153_21, ini_153, fs_cl, fs_len, fs_rf, fs_M, fs_put, fs_cpy, ↓reduceIte, rv_ref, true_or, or_true, true_and, and_true, nI_ltI, ix_nI, nI_clamp, ps_i, ps_n, Option.bind_some, sm_0, sm_1, sm_2, sm_3, sm_4, sto_0, sto_1, sto_2, sto_3, sto_4, sto_5, sto_6, sto_7, sto_8, sto_9, sto_10, sto_11, sto_12, sto_13, sto_14, nlo_n, nlo_i, nlo_r, nlo_0, nlo_l, and_self, or_self, Nat.reduceEqDiff, Nat.reduceLT, Nat.reduceLeDiff, Nat.one_ne_zero, Nat.zero_ne_one, m0, g, hq, nI_add]
theorem r153n (hk : Md h o) (hf : Fy M o bs B n u a b c) {q x : Nat} (hq : M o 6 = nI q) (h8 : M o 8 = -1) (hqn : q ≤ n) (hx : x < 256) (he : ¬ nx B n q = x) {e : Nat} (h2 : 2 ≤ e) : j_C e 153 [.ref o, .int (nI x)] (FS h M) = some (some (.int (nI 0)), FS h M) := by
  obtain ⟨d, rfl⟩ : ∃ d, e = d + 1 := ⟨e - 1, by omega⟩
  have m0 := hk.1
  have g := r151 hk hf hq h8 hqn (e := d) (by omega)
  rw [j_C_eq]
  simp (disch := omega) only [st_153_0, st_153_1, st_153_4, st_153_5, st_153_8, st_153_9, st_153_10, st_153_11, st_153_11r, st_153_12, st_153_15, st_153_16, st_153_17, st_153_20, st_153_21, ini_153, fs_cl, fs_len, fs_rf, fs_M, fs_put, fs_cpy, ↓reduceIte, rv_ref, true_or, or_true, true_and, and_true, nI_ltI, ix_nI, nI_clamp, ps_i, ps_n, Option.bind_some, sm_0, sm_1, sm_2, sm_3, sm_4, sto_0, sto_1, sto_2, sto_3, sto_4, sto_5, sto_6, sto_7, sto_8, sto_9, sto_10, sto_11, sto_12, sto_13, sto_14, nlo_n, nlo_i, nlo_r, nlo_0, nlo_l, and_self, or_self, Nat.reduceEqDiff, Nat.reduceLT, Nat.reduceLeDiff, Nat.one_ne_zero, Nat.zero_ne_one, m0, g, bI_eq, he]
theorem m1_ne {x : Nat} (hx : x < 256) : ¬ (-1 : Int32) = nI x := by
  have e := bI_eq (x := 256) hx
  rw [show bI 256 = -1 by decide +kernel] at e
  rw [e]; omega
theorem r153f (hk : Md h o) {j x : Nat} (h8 : M o 8 = nI j) (hj : j < 1000) (hx : x < 256) {e : Nat} (h2 : 2 ≤ e) : j_C e 153 [.ref o, .int (nI x)] (FS h M) = some (some (.int (nI 0)), FS h M) := by
  obtain ⟨d, rfl⟩ : ∃ d, e = d + 1 := ⟨e - 1, by omega⟩
  have m0 := hk.1
  have g := r151f hk h8 hj (e := d) (by omega)
  have ne := m1_ne hx
  rw [j_C_eq]
  simp (disch := omega) only [st_153_0, st_153_1, st_153_4, st_153_5, st_153_8, st_153_9, st_153_10, st_153_11, st_153_11r, st_153_12, st_153_15, st_153_16, st_153_17, st_153_20, st_153_21, ini_153, fs_cl, fs_len, fs_rf, fs_M, fs_put, fs_cpy, ↓reduceIte, rv_ref, true_or, or_true, true_and, and_true, nI_ltI, ix_nI, nI_clamp, ps_i, ps_n, Option.bind_some, sm_0, sm_1, sm_2, sm_3, sm_4, sto_0, sto_1, sto_2, sto_3, sto_4, sto_5, sto_6, sto_7, sto_8, sto_9, sto_10, sto_11, sto_12, sto_13, sto_14, nlo_n, nlo_i, nlo_r, nlo_0, nlo_l, and_self, or_self, Nat.reduceEqDiff, Nat.reduceLT, Nat.reduceLeDiff, Nat.one_ne_zero, Nat.zero_ne_one, m0, g, ne]
theorem r154 (hk : Md h o) (hu : u < 2) (h10 : M o 10 = nI u) (x : Nat) {e : Nat} (he : 1 ≤ e) : j_C e 154 [.ref o, .int (bI x)] (FS h M) = some (some (.int (nmI u x)), FS h M) := by
  obtain ⟨d, rfl⟩ : ∃ d, e = d + 1 := ⟨e - 1, by omega⟩
  have m0 := hk.1
  have e10 : ¬ nI 1 = nI 0 := by decide +kernel
  have hu : u = 0 ∨ u = 1 := by omega
  have H : ∀ y, nmI u x = y → j_C (d + 1) 154 [.ref o, .int (bI x)] (FS h M) = some (some (.int y), FS h M) := by
    intro y hy
    rw [j_C_eq]
    rcases hu with e0 | e0
    · subst e0
      by_cases e1 : x = 118
      · have : y = nI 0 := by rw [← hy, e1]; decide +kernel
        simp (disch := omega) only [st_154_0, st_154_1, st_154_4, st_154_7, st_154_8, st_154_10, st_154_13, st_154_14, st_154_17, st_154_18, st_154_20, st_154_23, st_154_24, st_154_27, st_154_28, st_154_30, st_154_33, st_154_34, st_154_37, st_154_38, st_154_39, st_154_40, st_154_42, st_154_45, st_154_46, st_154_49, st_154_50, st_154_52, st_154_55, st_154_56, st_154_59, st_154_60, st_154_62, st_154_65, st_154_66, st_154_69, st_154_70, ini_154, fs_cl, fs_len, fs_rf, fs_M, fs_put, fs_cpy, ↓reduceIte, rv_ref, true_or, or_true, true_and, and_true, nI_ltI, ix_nI, nI_clamp, ps_i, ps_n, Option.bind_some, sm_0, sm_1, sm_2, sm_3, sm_4, sto_0, sto_1, sto_2, sto_3, sto_4, sto_5, sto_6, sto_7, sto_8, sto_9, sto_10, sto_11, sto_12, sto_13, sto_14, nlo_n, nlo_i, nlo_r, nlo_0, nlo_l, and_self, or_self, Nat.reduceEqDiff, Nat.reduceLT, Nat.reduceLeDiff, Nat.one_ne_zero, Nat.zero_ne_one, m0, h10, bI_eq, eq_true e1, this]
      · by_cases e2 : x = 108
        · have : y = nI 1 := by rw [← hy, e2]; decide +kernel
          simp (disch := omega) only [st_154_0, st_154_1, st_154_4, st_154_7, st_154_8, st_154_10, st_154_13, st_154_14, st_154_17, st_154_18, st_154_20, st_154_23, st_154_24, st_154_27, st_154_28, st_154_30, st_154_33, st_154_34, st_154_37, st_154_38, st_154_39, st_154_40, st_154_42, st_154_45, st_154_46, st_154_49, st_154_50, st_154_52, st_154_55, st_154_56, st_154_59, st_154_60, st_154_62, st_154_65, st_154_66, st_154_69, st_154_70, ini_154, fs_cl, fs_len, fs_rf, fs_M, fs_put, fs_cpy, ↓reduceIte, rv_ref, true_or, or_true, true_and, and_true, nI_ltI, ix_nI, nI_clamp, ps_i, ps_n, Option.bind_some, sm_0, sm_1, sm_2, sm_3, sm_4, sto_0, sto_1, sto_2, sto_3, sto_4, sto_5, sto_6, sto_7, sto_8, sto_9, sto_10, sto_11, sto_12, sto_13, sto_14, nlo_n, nlo_i, nlo_r, nlo_0, nlo_l, and_self, or_self, Nat.reduceEqDiff, Nat.reduceLT, Nat.reduceLeDiff, Nat.one_ne_zero, Nat.zero_ne_one, m0, h10, bI_eq, e1, eq_true e2, this]
        · by_cases e3 : x = 100
          · have : y = nI 2 := by rw [← hy, e3]; decide +kernel
            simp (disch := omega) only [st_154_0, st_154_1, st_154_4, st_154_7, st_154_8, st_154_10, st_154_13, st_154_14, st_154_17, st_154_18, st_154_20, st_154_23, st_154_24, st_154_27, st_154_28, st_154_30, st_154_33, st_154_34, st_154_37, st_154_38, st_154_39, st_154_40, st_154_42, st_154_45, st_154_46, st_154_49, st_154_50, st_154_52, st_154_55, st_154_56, st_154_59, st_154_60, st_154_62, st_154_65, st_154_66, st_154_69, st_154_70, ini_154, fs_cl, fs_len, fs_rf, fs_M, fs_put, fs_cpy, ↓reduceIte, rv_ref, true_or, or_true, true_and, and_true, nI_ltI, ix_nI, nI_clamp, ps_i, ps_n, Option.bind_some, sm_0, sm_1, sm_2, sm_3, sm_4, sto_0, sto_1, sto_2, sto_3, sto_4, sto_5, sto_6, sto_7, sto_8, sto_9, sto_10, sto_11, sto_12, sto_13, sto_14, nlo_n, nlo_i, nlo_r, nlo_0, nlo_l, and_self, or_self, Nat.reduceEqDiff, Nat.reduceLT, Nat.reduceLeDiff, Nat.one_ne_zero, Nat.zero_ne_one, m0, h10, bI_eq, e1, e2, eq_true e3, this]
          · have : y = -1 := by rw [← hy]; unfold nmI nmN; simp [e1, e2, e3]
            simp (disch := omega) only [st_154_0, st_154_1, st_154_4, st_154_7, st_154_8, st_154_10, st_154_13, st_154_14, st_154_17, st_154_18, st_154_20, st_154_23, st_154_24, st_154_27, st_154_28, st_154_30, st_154_33, st_154_34, st_154_37, st_154_38, st_154_39, st_154_40, st_154_42, st_154_45, st_154_46, st_154_49, st_154_50, st_154_52, st_154_55, st_154_56, st_154_59, st_154_60, st_154_62, st_154_65, st_154_66, st_154_69, st_154_70, ini_154, fs_cl, fs_len, fs_rf, fs_M, fs_put, fs_cpy, ↓reduceIte, rv_ref, true_or, or_true, true_and, and_true, nI_ltI, ix_nI, nI_clamp, ps_i, ps_n, Option.bind_some, sm_0, sm_1, sm_2, sm_3, sm_4, sto_0, sto_1, sto_2, sto_3, sto_4, sto_5, sto_6, sto_7, sto_8, sto_9, sto_10, sto_11, sto_12, sto_13, sto_14, nlo_n, nlo_i, nlo_r, nlo_0, nlo_l, and_self, or_self, Nat.reduceEqDiff, Nat.reduceLT, Nat.reduceLeDiff, Nat.one_ne_zero, Nat.zero_ne_one, m0, h10, bI_eq, e1, e2, e3, this]
    · subst e0
      by_cases e1 : x = 118
      · have : y = nI 0 := by rw [← hy, e1]; decide +kernel
        simp (disch := omega) only [st_154_0, st_154_1, st_154_4, st_154_7, st_154_8, st_154_10, st_154_13, st_154_14, st_154_17, st_154_18, st_154_20, st_154_23, st_154_24, st_154_27, st_154_28, st_154_30, st_154_33, st_154_34, st_154_37, st_154_38, st_154_39, st_154_40, st_154_42, st_154_45, st_154_46, st_154_49, st_154_50, st_154_52, st_154_55, st_154_56, st_154_59, st_154_60, st_154_62, st_154_65, st_154_66, st_154_69, st_154_70, ini_154, fs_cl, fs_len, fs_rf, fs_M, fs_put, fs_cpy, ↓reduceIte, rv_ref, true_or, or_true, true_and, and_true, nI_ltI, ix_nI, nI_clamp, ps_i, ps_n, Option.bind_some, sm_0, sm_1, sm_2, sm_3, sm_4, sto_0, sto_1, sto_2, sto_3, sto_4, sto_5, sto_6, sto_7, sto_8, sto_9, sto_10, sto_11, sto_12, sto_13, sto_14, nlo_n, nlo_i, nlo_r, nlo_0, nlo_l, and_self, or_self, Nat.reduceEqDiff, Nat.reduceLT, Nat.reduceLeDiff, Nat.one_ne_zero, Nat.zero_ne_one, m0, h10, e10, bI_eq, eq_true e1, this]
      · by_cases e2 : x = 107
        · have : y = nI 1 := by rw [← hy, e2]; decide +kernel
          simp (disch := omega) only [st_154_0, st_154_1, st_154_4, st_154_7, st_154_8, st_154_10, st_154_13, st_154_14, st_154_17, st_154_18, st_154_20, st_154_23, st_154_24, st_154_27, st_154_28, st_154_30, st_154_33, st_154_34, st_154_37, st_154_38, st_154_39, st_154_40, st_154_42, st_154_45, st_154_46, st_154_49, st_154_50, st_154_52, st_154_55, st_154_56, st_154_59, st_154_60, st_154_62, st_154_65, st_154_66, st_154_69, st_154_70, ini_154, fs_cl, fs_len, fs_rf, fs_M, fs_put, fs_cpy, ↓reduceIte, rv_ref, true_or, or_true, true_and, and_true, nI_ltI, ix_nI, nI_clamp, ps_i, ps_n, Option.bind_some, sm_0, sm_1, sm_2, sm_3, sm_4, sto_0, sto_1, sto_2, sto_3, sto_4, sto_5, sto_6, sto_7, sto_8, sto_9, sto_10, sto_11, sto_12, sto_13, sto_14, nlo_n, nlo_i, nlo_r, nlo_0, nlo_l, and_self, or_self, Nat.reduceEqDiff, Nat.reduceLT, Nat.reduceLeDiff, Nat.one_ne_zero, Nat.zero_ne_one, m0, h10, e10, bI_eq, e1, eq_true e2, this]
        · by_cases e3 : x = 116
          · have : y = nI 2 := by rw [← hy, e3]; decide +kernel
            simp (disch := omega) only [st_154_0, st_154_1, st_154_4, st_154_7, st_154_8, st_154_10, st_154_13, st_154_14, st_154_17, st_154_18, st_154_20, st_154_23, st_154_24, st_154_27, st_154_28, st_154_30, st_154_33, st_154_34, st_154_37, st_154_38, st_154_39, st_154_40, st_154_42, st_154_45, st_154_46, st_154_49, st_154_50, st_154_52, st_154_55, st_154_56, st_154_59, st_154_60, st_154_62, st_154_65, st_154_66, st_154_69, st_154_70, ini_154, fs_cl, fs_len, fs_rf, fs_M, fs_put, fs_cpy, ↓reduceIte, rv_ref, true_or, or_true, true_and, and_true, nI_ltI, ix_nI, nI_clamp, ps_i, ps_n, Option.bind_some, sm_0, sm_1, sm_2, sm_3, sm_4, sto_0, sto_1, sto_2, sto_3, sto_4, sto_5, sto_6, sto_7, sto_8, sto_9, sto_10, sto_11, sto_12, sto_13, sto_14, nlo_n, nlo_i, nlo_r, nlo_0, nlo_l, and_self, or_self, Nat.reduceEqDiff, Nat.reduceLT, Nat.reduceLeDiff, Nat.one_ne_zero, Nat.zero_ne_one, m0, h10, e10, bI_eq, e1, e2, eq_true e3, this]
          · have : y = -1 := by rw [← hy]; unfold nmI nmN; simp [e1, e2, e3]
            simp (disch := omega) only [st_154_0, st_154_1, st_154_4, st_154_7, st_154_8, st_154_10, st_154_13, st_154_14, st_154_17, st_154_18, st_154_20, st_154_23, st_154_24, st_154_27, st_154_28, st_154_30, st_154_33, st_154_34, st_154_37, st_154_38, st_154_39, st_154_40, st_154_42, st_154_45, st_154_46, st_154_49, st_154_50, st_154_52, st_154_55, st_154_56, st_154_59, st_154_60, st_154_62, st_154_65, st_154_66, st_154_69, st_154_70, ini_154, fs_cl, fs_len, fs_rf, fs_M, fs_put, fs_cpy, ↓reduceIte, rv_ref, true_or, or_true, true_and, and_true, nI_ltI, ix_nI, nI_clamp, ps_i, ps_n, Option.bind_some, sm_0, sm_1, sm_2, sm_3, sm_4, sto_0, sto_1, sto_2, sto_3, sto_4, sto_5, sto_6, sto_7, sto_8, sto_9, sto_10, sto_11, sto_12, sto_13, sto_14, nlo_n, nlo_i, nlo_r, nlo_0, nlo_l, and_self, or_self, Nat.reduceEqDiff, Nat.reduceLT, Nat.reduceLeDiff, Nat.one_ne_zero, Nat.zero_ne_one, m0, h10, e10, bI_eq, e1, e2, e3, this]
  exact H _ rfl
theorem lin_d : ∀ x, x ≤ 256 → lin (bI x).toInt64 (lN 48) (lN 57) = if dgt x = true then nI 1 else nI 0 := by decide +kernel
/-- the digits behind the first -/
theorem r160d (hk : Md h o) {e : Nat} (he : 2 ≤ e) {o1 : Option Value} {x2 : Int32} : ∀ r i q v (M : Nat → Nat → Int32), r + (i + 1) = 4 → Fy M o bs B n u a b c → M o 6 = nI q → M o 8 = -1 → q ≤ n → ∃ M', j_X e 160 150 [some (.ref o), o1, some (.int x2), some (.int (nI v)), some (.int (nI (i + 1)))] [] (FS h M) = some (some (.int (nI (pmN B n r q v).1)), FS h M') ∧ vf o M M' ∧ M' o 6 = nI (pmN B n r q v).2 ∧ M' o 8 = -1 ∧ M' o 9 = M o 9 := by
  have m0 := hk.1
  have e10 : ¬ nI 1 = nI 0 := by decide +kernel
  intro r
  induction r with
  | zero =>
    intro i q v M hr hf hq h8 hqn
    have e1 : ¬ i + 1 < 4 := by omega
    have e2 : ¬ nI (i + 1) = nI 0 := nI_ne (by omega) (by omega) (by omega)
    refine ⟨M, ?_, vf_r, hq, h8, rfl⟩
    rw [st_160_150]
    simp (disch := omega) only [st_160_0, st_160_1, st_160_4, st_160_5, st_160_6, st_160_8, st_160_11, st_160_12, st_160_14, st_160_17, st_160_18, st_160_21, st_160_22, st_160_25, st_160_26, st_160_29, st_160_30, st_160_31, st_160_31r, st_160_32, st_160_35, st_160_36, st_160_37, st_160_40, st_160_41, st_160_41r, st_160_42, st_160_45, st_160_46, st_160_47, st_160_50, st_160_51, st_160_53, st_160_56, st_160_57, st_160_60, st_160_63, st_160_64, st_160_67, st_160_68, st_160_69, st_160_71, st_160_74, st_160_75, st_160_77, st_160_80, st_160_83, st_160_84, st_160_87, st_160_88, st_160_89, st_160_89r, st_160_90, st_160_93, st_160_94, st_160_95, st_160_98, st_160_99, st_160_101, st_160_104, st_160_105, st_160_108, st_160_109, st_160_112, st_160_113, st_160_116, st_160_117, st_160_118, st_160_119, st_160_120, st_160_123, st_160_124, st_160_125, st_160_128, st_160_129, st_160_129r, st_160_130, st_160_133, st_160_134, st_160_135, st_160_138, st_160_139, st_160_142, st_160_143, st_160_144, st_160_145, st_160_146, st_160_147, st_160_148, st_160_152, st_160_153, st_160_156, st_160_157, st_160_160, st_160_161, st_160_164, st_160_167, st_160_170, st_160_173, st_160_175, st_160_176, st_160_177, st_160_178, st_160_181, st_160_182, st_160_184, st_160_185, st_160_186, st_160_187, st_160_187r, st_160_188, st_160_191, st_160_192, st_160_193, st_160_196, st_160_199, st_160_202, st_160_204, st_160_207, st_160_208, st_160_211, st_160_214, st_160_215, ini_160, fs_cl, fs_len, fs_rf, fs_M, fs_put, fs_cpy, ↓reduceIte, rv_ref, true_or, or_true, true_and, and_true, nI_ltI, ix_nI, nI_clamp, ps_i, ps_n, Option.bind_some, sm_0, sm_1, sm_2, sm_3, sm_4, sto_0, sto_1, sto_2, sto_3, sto_4, sto_5, sto_6, sto_7, sto_8, sto_9, sto_10, sto_11, sto_12, sto_13, sto_14, nlo_n, nlo_i, nlo_r, nlo_0, nlo_l, and_self, or_self, Nat.reduceEqDiff, Nat.reduceLT, Nat.reduceLeDiff, Nat.one_ne_zero, Nat.zero_ne_one, e1, e2]
    rfl
  | succ r ih =>
    intro i q v M hr hf hq h8 hqn
    have e1 : i + 1 < 4 := by omega
    have hB := Fy_B hf
    have g := r151 hk hf hq h8 hqn (e := e) (by omega)
    have gl := r143 (σ := FS h M) (d := e - 1) (bI (nx B n q)).toInt64 (lN 48) (lN 57)
    rw [lin_d _ (nx_le hB q), show e - 1 + 1 = e by omega] at gl
    unfold pmN
    by_cases cc : dgt (nx B n q) = true
    · rw [if_pos cc] at gl
      rw [if_pos cc]
      have c2 := dgt_t.mp cc
      have hin := nx_in (B := B) (n := n) (q := q) (by omega)
      rw [bI_lt (by omega)] at g gl
      obtain ⟨M', a1, a2, a3, a4, a5⟩ := ih (i + 1) (q + 1) (v * 10 + nx B n q - 48) (j_up M o 6 (nI (q + 1))) (by omega) (Fy_vf hf vf_6) (up_s _ _ _) (by rw [up_k _ _ _ _ (by omega)]; exact h8) (by omega)
      refine ⟨M', ?_, vf_t vf_6 a2, a3, a4, by rw [a5, up_k _ _ _ _ (by omega)]⟩
      have hs : nI (v * 10 + nx B n q) - nI 48 = nI (v * 10 + nx B n q - 48) := nI_sub (by omega)
      rw [Nat.mul_comm v 10] at hs
      rw [st_160_150]
      simp (disch := omega) only [st_160_0, st_160_1, st_160_4, st_160_5, st_160_6, st_160_8, st_160_11, st_160_12, st_160_14, st_160_17, st_160_18, st_160_21, st_160_22, st_160_25, st_160_26, st_160_29, st_160_30, st_160_31, st_160_31r, st_160_32, st_160_35, st_160_36, st_160_37, st_160_40, st_160_41, st_160_41r, st_160_42, st_160_45, st_160_46, st_160_47, st_160_50, st_160_51, st_160_53, st_160_56, st_160_57, st_160_60, st_160_63, st_160_64, st_160_67, st_160_68, st_160_69, st_160_71, st_160_74, st_160_75, st_160_77, st_160_80, st_160_83, st_160_84, st_160_87, st_160_88, st_160_89, st_160_89r, st_160_90, st_160_93, st_160_94, st_160_95, st_160_98, st_160_99, st_160_101, st_160_104, st_160_105, st_160_108, st_160_109, st_160_112, st_160_113, st_160_116, st_160_117, st_160_118, st_160_119, st_160_120, st_160_123, st_160_124, st_160_125, st_160_128, st_160_129, st_160_129r, st_160_130, st_160_133, st_160_134, st_160_135, st_160_138, st_160_139, st_160_142, st_160_143, st_160_144, st_160_145, st_160_146, st_160_147, st_160_148, st_160_152, st_160_153, st_160_156, st_160_157, st_160_160, st_160_161, st_160_164, st_160_167, st_160_170, st_160_173, st_160_175, st_160_176, st_160_177, st_160_178, st_160_181, st_160_182, st_160_184, st_160_185, st_160_186, st_160_187, st_160_187r, st_160_188, st_160_191, st_160_192, st_160_193, st_160_196, st_160_199, st_160_202, st_160_204, st_160_207, st_160_208, st_160_211, st_160_214, st_160_215, ini_160, fs_cl, fs_len, fs_rf, fs_M, fs_put, fs_cpy, ↓reduceIte, rv_ref, true_or, or_true, true_and, and_true, nI_ltI, ix_nI, nI_clamp, ps_i, ps_n, Option.bind_some, sm_0, sm_1, sm_2, sm_3, sm_4, sto_0, sto_1, sto_2, sto_3, sto_4, sto_5, sto_6, sto_7, sto_8, sto_9, sto_10, sto_11, sto_12, sto_13, sto_14, nlo_n, nlo_i, nlo_r, nlo_0, nlo_l, and_self, or_self, Nat.reduceEqDiff, Nat.reduceLT, Nat.reduceLeDiff, Nat.one_ne_zero, Nat.zero_ne_one, m0, e1, g, gl, e10, nI_mul, nI_add, hs, hq]
      rw [Nat.mul_comm 10 v]
      exact a1
    · rw [if_neg cc] at gl
      rw [if_neg cc]
      have e2 : ¬ nI (i + 1) = nI 0 := nI_ne (by omega) (by omega) (by omega)
      refine ⟨M, ?_, vf_r, hq, h8, rfl⟩
      rw [st_160_150]
      simp (disch := omega) only [st_160_0, st_160_1, st_160_4, st_160_5, st_160_6, st_160_8, st_160_11, st_160_12, st_160_14, st_160_17, st_160_18, st_160_21, st_160_22, st_160_25, st_160_26, st_160_29, st_160_30, st_160_31, st_160_31r, st_160_32, st_160_35, st_160_36, st_160_37, st_160_40, st_160_41, st_160_41r, st_160_42, st_160_45, st_160_46, st_160_47, st_160_50, st_160_51, st_160_53, st_160_56, st_160_57, st_160_60, st_160_63, st_160_64, st_160_67, st_160_68, st_160_69, st_160_71, st_160_74, st_160_75, st_160_77, st_160_80, st_160_83, st_160_84, st_160_87, st_160_88, st_160_89, st_160_89r, st_160_90, st_160_93, st_160_94, st_160_95, st_160_98, st_160_99, st_160_101, st_160_104, st_160_105, st_160_108, st_160_109, st_160_112, st_160_113, st_160_116, st_160_117, st_160_118, st_160_119, st_160_120, st_160_123, st_160_124, st_160_125, st_160_128, st_160_129, st_160_129r, st_160_130, st_160_133, st_160_134, st_160_135, st_160_138, st_160_139, st_160_142, st_160_143, st_160_144, st_160_145, st_160_146, st_160_147, st_160_148, st_160_152, st_160_153, st_160_156, st_160_157, st_160_160, st_160_161, st_160_164, st_160_167, st_160_170, st_160_173, st_160_175, st_160_176, st_160_177, st_160_178, st_160_181, st_160_182, st_160_184, st_160_185, st_160_186, st_160_187, st_160_187r, st_160_188, st_160_191, st_160_192, st_160_193, st_160_196, st_160_199, st_160_202, st_160_204, st_160_207, st_160_208, st_160_211, st_160_214, st_160_215, ini_160, fs_cl, fs_len, fs_rf, fs_M, fs_put, fs_cpy, ↓reduceIte, rv_ref, true_or, or_true, true_and, and_true, nI_ltI, ix_nI, nI_clamp, ps_i, ps_n, Option.bind_some, sm_0, sm_1, sm_2, sm_3, sm_4, sto_0, sto_1, sto_2, sto_3, sto_4, sto_5, sto_6, sto_7, sto_8, sto_9, sto_10, sto_11, sto_12, sto_13, sto_14, nlo_n, nlo_i, nlo_r, nlo_0, nlo_l, and_self, or_self, Nat.reduceEqDiff, Nat.reduceLT, Nat.reduceLeDiff, Nat.one_ne_zero, Nat.zero_ne_one, m0, e1, g, gl, e2]
theorem stp_n {v : Nat} (hv : v < 2147483648) (l : List Int32) : stp a b c l (nI v) = nI v :: l := by
  unfold stp; rw [if_neg (nI_nlt (by omega) (by omega))]
theorem stp_nm {k : Nat} (hk : k < 3) (l : List Int32) : stp a b c l (-1 - nI k) = (if k = 0 then a else if k = 1 then b else c) :: l := by
  have h : k = 0 ∨ k = 1 ∨ k = 2 := by omega
  rcases h with e | e | e
  · subst e; unfold stp; rw [if_pos (by decide +kernel), if_neg (by decide +kernel), if_pos (by decide +kernel)]; rfl
  · subst e; unfold stp; rw [if_pos (by decide +kernel), if_neg (by decide +kernel), if_neg (by decide +kernel), if_pos (by decide +kernel)]; rfl
  · subst e; unfold stp; rw [if_pos (by decide +kernel), if_neg (by decide +kernel), if_neg (by decide +kernel), if_neg (by decide +kernel)]; rfl
theorem nm_ok (hf : Fy M o bs B n u a b c) {k : Nat} (hk : k < 3) : M (o + 5) k = if k = 0 then a else if k = 1 then b else c := by
  obtain ⟨a1, a2, a3, a4, a5, a6, a7, a8, a9, a10⟩ := hf
  have h : k = 0 ∨ k = 1 ∨ k = 2 := by omega
  rcases h with e | e | e
  · subst e; exact a7
  · subst e; exact a8
  · subst e; exact a9
/-- a unit without a bracket -/
theorem r160b (hk : Md h o) {e q k : Nat} (he : 4 ≤ e) (hf : Fy M o bs B n u a b c) (hq : M o 6 = nI q) (h8 : M o 8 = -1) (h9 : M o 9 = nI (5 - k)) (hqn : q ≤ n) (hb : ¬ (nx B n q = 33 ∨ nx B n q = 40) ∨ k = 0) : ∃ v M', j_C e 160 [.ref o] (FS h M) = some (some (.int v), FS h M') ∧ Vo o M M' (bsR B n u q) v a b c := by
  obtain ⟨e, rfl⟩ : ∃ d, e = d + 1 := ⟨e - 1, by omega⟩
  obtain ⟨m0, _, _, _, _, ⟨q11, z1, z2, z3⟩, _⟩ := id hk
  have e10 : ¬ nI 1 = nI 0 := by decide +kernel
  have hB := Fy_B hf
  have xl := nx_le hB q
  have u2 := hf.2.2.1
  have g := r151 hk hf hq h8 hqn (e := e) (by omega)
  have g4 := r154 hk u2 hf.2.2.2.2.2.1 (nx B n q) (e := e) (by omega)
  have gl := r143 (σ := FS h M) (d := e - 1) (bI (nx B n q)).toInt64 (lN 48) (lN 57)
  rw [lin_d _ xl, show e - 1 + 1 = e by omega] at gl
  have gw := r152 hk hq h8 (e := e) (by omega)
  have t0 : (0 : Nat) < 4 := by omega
  unfold bsR
  by_cases cc : dgt (nx B n q) = true
  · rw [if_pos cc] at gl
    rw [if_pos cc]
    have c2 := dgt_t.mp cc
    have hin := nx_in (B := B) (n := n) (q := q) (by omega)
    have c3 : ¬ nx B n q = 33 := by omega
    have c4 : ¬ nx B n q = 40 := by omega
    have c5 : nmI u (nx B n q) = -1 := by
      unfold nmI nmN
      rw [if_neg (by split <;> (try split) <;> (try split) <;> (try split) <;> omega)]
    have f5 : (-1 : Int32) < nI 0 := by decide +kernel
    rw [c5] at g4
    rw [bI_lt (by omega)] at g gl g4
    obtain ⟨M', a1, a2, a3, a4, a5⟩ := r160d (o1 := some (.int (nI (nx B n q)))) (x2 := -1) hk (by omega : 2 ≤ e) 3 0 (q + 1) (0 * 10 + nx B n q - 48) (j_up M o 6 (nI (q + 1))) (by omega) (Fy_vf hf vf_6) (up_s _ _ _) (by rw [up_k _ _ _ _ (by omega)]; exact h8) (by omega)
    have hp : pmN B n 4 q 0 = pmN B n 3 (q + 1) (0 * 10 + nx B n q - 48) := by
      rw [pmN, if_pos cc]
    have hv := pmN_v (B := B) (n := n) 4 q 0 1 (by omega)
    rw [← hp] at a1 a3
    refine ⟨_, M', ?_, vf_t vf_6 a2, fun _ => ⟨fun l => by rw [List.foldl_cons, List.foldl_nil]; exact stp_n (by omega) l, a3, a4, by rw [a5, up_k _ _ _ _ (by omega)]⟩, fun e => by cases e⟩
    have hs : nI (0 + nx B n q) - nI 48 = nI (0 + nx B n q - 48) := nI_sub (by omega)
    rw [Nat.zero_mul] at a1
    have t1 : ¬ nI (nx B n q) = nI 33 := nI_ne c3 (by omega) (by omega)
    have t2 : ¬ nI (nx B n q) = nI 40 := nI_ne c4 (by omega) (by omega)
    rw [j_C_eq]
    simp (disch := omega) only [st_160_0, st_160_1, st_160_4, st_160_5, st_160_6, st_160_8, st_160_11, st_160_12, st_160_14, st_160_17, st_160_18, st_160_21, st_160_22, st_160_25, st_160_26, st_160_29, st_160_30, st_160_31, st_160_31r, st_160_32, st_160_35, st_160_36, st_160_37, st_160_40, st_160_41, st_160_41r, st_160_42, st_160_45, st_160_46, st_160_47, st_160_50, st_160_51, st_160_53, st_160_56, st_160_57, st_160_60, st_160_63, st_160_64, st_160_67, st_160_68, st_160_69, st_160_71, st_160_74, st_160_75, st_160_77, st_160_80, st_160_83, st_160_84, st_160_87, st_160_88, st_160_89, st_160_89r, st_160_90, st_160_93, st_160_94, st_160_95, st_160_98, st_160_99, st_160_101, st_160_104, st_160_105, st_160_108, st_160_109, st_160_112, st_160_113, st_160_116, st_160_117, st_160_118, st_160_119, st_160_120, st_160_123, st_160_124, st_160_125, st_160_128, st_160_129, st_160_129r, st_160_130, st_160_133, st_160_134, st_160_135, st_160_138, st_160_139, st_160_142, st_160_143, st_160_144, st_160_145, st_160_146, st_160_147, st_160_148, st_160_152, st_160_153, st_160_156, st_160_157, st_160_160, st_160_161, st_160_164, st_160_167, st_160_170, st_160_173, st_160_175, st_160_176, st_160_177, st_160_178, st_160_181, st_160_182, st_160_184, st_160_185, st_160_186, st_160_187, st_160_187r, st_160_188, st_160_191, st_160_192, st_160_193, st_160_196, st_160_199, st_160_202, st_160_204, st_160_207, st_160_208, st_160_211, st_160_214, st_160_215, ini_160, fs_cl, fs_len, fs_rf, fs_M, fs_put, fs_cpy, ↓reduceIte, rv_ref, true_or, or_true, true_and, and_true, nI_ltI, ix_nI, nI_clamp, ps_i, ps_n, Option.bind_some, sm_0, sm_1, sm_2, sm_3, sm_4, sto_0, sto_1, sto_2, sto_3, sto_4, sto_5, sto_6, sto_7, sto_8, sto_9, sto_10, sto_11, sto_12, sto_13, sto_14, nlo_n, nlo_i, nlo_r, nlo_0, nlo_l, and_self, or_self, Nat.reduceEqDiff, Nat.reduceLT, Nat.reduceLeDiff, Nat.one_ne_zero, Nat.zero_ne_one, m0, g, t1, t2, g4, f5]
    rw [st_160_150]
    simp (disch := omega) only [st_160_0, st_160_1, st_160_4, st_160_5, st_160_6, st_160_8, st_160_11, st_160_12, st_160_14, st_160_17, st_160_18, st_160_21, st_160_22, st_160_25, st_160_26, st_160_29, st_160_30, st_160_31, st_160_31r, st_160_32, st_160_35, st_160_36, st_160_37, st_160_40, st_160_41, st_160_41r, st_160_42, st_160_45, st_160_46, st_160_47, st_160_50, st_160_51, st_160_53, st_160_56, st_160_57, st_160_60, st_160_63, st_160_64, st_160_67, st_160_68, st_160_69, st_160_71, st_160_74, st_160_75, st_160_77, st_160_80, st_160_83, st_160_84, st_160_87, st_160_88, st_160_89, st_160_89r, st_160_90, st_160_93, st_160_94, st_160_95, st_160_98, st_160_99, st_160_101, st_160_104, st_160_105, st_160_108, st_160_109, st_160_112, st_160_113, st_160_116, st_160_117, st_160_118, st_160_119, st_160_120, st_160_123, st_160_124, st_160_125, st_160_128, st_160_129, st_160_129r, st_160_130, st_160_133, st_160_134, st_160_135, st_160_138, st_160_139, st_160_142, st_160_143, st_160_144, st_160_145, st_160_146, st_160_147, st_160_148, st_160_152, st_160_153, st_160_156, st_160_157, st_160_160, st_160_161, st_160_164, st_160_167, st_160_170, st_160_173, st_160_175, st_160_176, st_160_177, st_160_178, st_160_181, st_160_182, st_160_184, st_160_185, st_160_186, st_160_187, st_160_187r, st_160_188, st_160_191, st_160_192, st_160_193, st_160_196, st_160_199, st_160_202, st_160_204, st_160_207, st_160_208, st_160_211, st_160_214, st_160_215, ini_160, fs_cl, fs_len, fs_rf, fs_M, fs_put, fs_cpy, ↓reduceIte, rv_ref, true_or, or_true, true_and, and_true, nI_ltI, ix_nI, nI_clamp, ps_i, ps_n, Option.bind_some, sm_0, sm_1, sm_2, sm_3, sm_4, sto_0, sto_1, sto_2, sto_3, sto_4, sto_5, sto_6, sto_7, sto_8, sto_9, sto_10, sto_11, sto_12, sto_13, sto_14, nlo_n, nlo_i, nlo_r, nlo_0, nlo_l, and_self, or_self, Nat.reduceEqDiff, Nat.reduceLT, Nat.reduceLeDiff, Nat.one_ne_zero, Nat.zero_ne_one, m0, g, gl, e10, nI_mul, nI_add, Nat.mul_zero, hs, hq, t0, a1]
  · rw [if_neg cc] at gl
    rw [if_neg cc]
    by_cases c2 : nx B n q = 33 ∨ nx B n q = 40
    · rw [if_pos c2]
      have k0 : k = 0 := hb.resolve_left (fun hh => hh c2)
      subst k0
      refine ⟨nI 0, j_up M o 8 (nI q), ?_, vf_8, (fun e => by cases e), fun _ => up_s _ _ _⟩
      rw [j_C_eq]
      by_cases c3 : nx B n q = 33
      · simp (disch := omega) only [st_160_0, st_160_1, st_160_4, st_160_5, st_160_6, st_160_8, st_160_11, st_160_12, st_160_14, st_160_17, st_160_18, st_160_21, st_160_22, st_160_25, st_160_26, st_160_29, st_160_30, st_160_31, st_160_31r, st_160_32, st_160_35, st_160_36, st_160_37, st_160_40, st_160_41, st_160_41r, st_160_42, st_160_45, st_160_46, st_160_47, st_160_50, st_160_51, st_160_53, st_160_56, st_160_57, st_160_60, st_160_63, st_160_64, st_160_67, st_160_68, st_160_69, st_160_71, st_160_74, st_160_75, st_160_77, st_160_80, st_160_83, st_160_84, st_160_87, st_160_88, st_160_89, st_160_89r, st_160_90, st_160_93, st_160_94, st_160_95, st_160_98, st_160_99, st_160_101, st_160_104, st_160_105, st_160_108, st_160_109, st_160_112, st_160_113, st_160_116, st_160_117, st_160_118, st_160_119, st_160_120, st_160_123, st_160_124, st_160_125, st_160_128, st_160_129, st_160_129r, st_160_130, st_160_133, st_160_134, st_160_135, st_160_138, st_160_139, st_160_142, st_160_143, st_160_144, st_160_145, st_160_146, st_160_147, st_160_148, st_160_152, st_160_153, st_160_156, st_160_157, st_160_160, st_160_161, st_160_164, st_160_167, st_160_170, st_160_173, st_160_175, st_160_176, st_160_177, st_160_178, st_160_181, st_160_182, st_160_184, st_160_185, st_160_186, st_160_187, st_160_187r, st_160_188, st_160_191, st_160_192, st_160_193, st_160_196, st_160_199, st_160_202, st_160_204, st_160_207, st_160_208, st_160_211, st_160_214, st_160_215, ini_160, fs_cl, fs_len, fs_rf, fs_M, fs_put, fs_cpy, ↓reduceIte, rv_ref, true_or, or_true, true_and, and_true, nI_ltI, ix_nI, nI_clamp, ps_i, ps_n, Option.bind_some, sm_0, sm_1, sm_2, sm_3, sm_4, sto_0, sto_1, sto_2, sto_3, sto_4, sto_5, sto_6, sto_7, sto_8, sto_9, sto_10, sto_11, sto_12, sto_13, sto_14, nlo_n, nlo_i, nlo_r, nlo_0, nlo_l, and_self, or_self, Nat.reduceEqDiff, Nat.reduceLT, Nat.reduceLeDiff, Nat.one_ne_zero, Nat.zero_ne_one, m0, g, bI_eq, eq_true c3, h9, Nat.sub_zero, gw]
      · have c4 := c2.resolve_left c3
        simp (disch := omega) only [st_160_0, st_160_1, st_160_4, st_160_5, st_160_6, st_160_8, st_160_11, st_160_12, st_160_14, st_160_17, st_160_18, st_160_21, st_160_22, st_160_25, st_160_26, st_160_29, st_160_30, st_160_31, st_160_31r, st_160_32, st_160_35, st_160_36, st_160_37, st_160_40, st_160_41, st_160_41r, st_160_42, st_160_45, st_160_46, st_160_47, st_160_50, st_160_51, st_160_53, st_160_56, st_160_57, st_160_60, st_160_63, st_160_64, st_160_67, st_160_68, st_160_69, st_160_71, st_160_74, st_160_75, st_160_77, st_160_80, st_160_83, st_160_84, st_160_87, st_160_88, st_160_89, st_160_89r, st_160_90, st_160_93, st_160_94, st_160_95, st_160_98, st_160_99, st_160_101, st_160_104, st_160_105, st_160_108, st_160_109, st_160_112, st_160_113, st_160_116, st_160_117, st_160_118, st_160_119, st_160_120, st_160_123, st_160_124, st_160_125, st_160_128, st_160_129, st_160_129r, st_160_130, st_160_133, st_160_134, st_160_135, st_160_138, st_160_139, st_160_142, st_160_143, st_160_144, st_160_145, st_160_146, st_160_147, st_160_148, st_160_152, st_160_153, st_160_156, st_160_157, st_160_160, st_160_161, st_160_164, st_160_167, st_160_170, st_160_173, st_160_175, st_160_176, st_160_177, st_160_178, st_160_181, st_160_182, st_160_184, st_160_185, st_160_186, st_160_187, st_160_187r, st_160_188, st_160_191, st_160_192, st_160_193, st_160_196, st_160_199, st_160_202, st_160_204, st_160_207, st_160_208, st_160_211, st_160_214, st_160_215, ini_160, fs_cl, fs_len, fs_rf, fs_M, fs_put, fs_cpy, ↓reduceIte, rv_ref, true_or, or_true, true_and, and_true, nI_ltI, ix_nI, nI_clamp, ps_i, ps_n, Option.bind_some, sm_0, sm_1, sm_2, sm_3, sm_4, sto_0, sto_1, sto_2, sto_3, sto_4, sto_5, sto_6, sto_7, sto_8, sto_9, sto_10, sto_11, sto_12, sto_13, sto_14, nlo_n, nlo_i, nlo_r, nlo_0, nlo_l, and_self, or_self, Nat.reduceEqDiff, Nat.reduceLT, Nat.reduceLeDiff, Nat.one_ne_zero, Nat.zero_ne_one, m0, g, bI_eq, c3, eq_true c4, h9, Nat.sub_zero, gw]
    · rw [if_neg c2]
      have c3 : ¬ nx B n q = 33 := fun e => c2 (.inl e)
      have c4 : ¬ nx B n q = 40 := fun e => c2 (.inr e)
      unfold nmI at g4
      by_cases c5 : nmN u (nx B n q) < 3
      · rw [if_pos c5] at g4
        rw [if_pos c5]
        have hin := nx_in (nm_lt c5)
        have f5 : ¬ nI (nmN u (nx B n q)) < nI 0 := nI_nlt (by omega) (by omega)
        have gm := nm_ok hf c5
        have eo : j_up M o 6 (nI (q + 1)) (o + 5) = M (o + 5) := up_r _ _ _ _ (by omega)
        refine ⟨(if nmN u (nx B n q) = 0 then a else if nmN u (nx B n q) = 1 then b else c), j_up M o 6 (nI (q + 1)), ?_, vf_6, fun _ => ⟨fun l => by rw [List.foldl_cons, List.foldl_nil]; exact stp_nm c5 l, up_s _ _ _, by rw [up_k _ _ _ _ (by omega)]; exact h8, up_k _ _ _ _ (by omega)⟩, fun e => by cases e⟩
        rw [j_C_eq]
        simp (disch := omega) only [st_160_0, st_160_1, st_160_4, st_160_5, st_160_6, st_160_8, st_160_11, st_160_12, st_160_14, st_160_17, st_160_18, st_160_21, st_160_22, st_160_25, st_160_26, st_160_29, st_160_30, st_160_31, st_160_31r, st_160_32, st_160_35, st_160_36, st_160_37, st_160_40, st_160_41, st_160_41r, st_160_42, st_160_45, st_160_46, st_160_47, st_160_50, st_160_51, st_160_53, st_160_56, st_160_57, st_160_60, st_160_63, st_160_64, st_160_67, st_160_68, st_160_69, st_160_71, st_160_74, st_160_75, st_160_77, st_160_80, st_160_83, st_160_84, st_160_87, st_160_88, st_160_89, st_160_89r, st_160_90, st_160_93, st_160_94, st_160_95, st_160_98, st_160_99, st_160_101, st_160_104, st_160_105, st_160_108, st_160_109, st_160_112, st_160_113, st_160_116, st_160_117, st_160_118, st_160_119, st_160_120, st_160_123, st_160_124, st_160_125, st_160_128, st_160_129, st_160_129r, st_160_130, st_160_133, st_160_134, st_160_135, st_160_138, st_160_139, st_160_142, st_160_143, st_160_144, st_160_145, st_160_146, st_160_147, st_160_148, st_160_152, st_160_153, st_160_156, st_160_157, st_160_160, st_160_161, st_160_164, st_160_167, st_160_170, st_160_173, st_160_175, st_160_176, st_160_177, st_160_178, st_160_181, st_160_182, st_160_184, st_160_185, st_160_186, st_160_187, st_160_187r, st_160_188, st_160_191, st_160_192, st_160_193, st_160_196, st_160_199, st_160_202, st_160_204, st_160_207, st_160_208, st_160_211, st_160_214, st_160_215, ini_160, fs_cl, fs_len, fs_rf, fs_M, fs_put, fs_cpy, ↓reduceIte, rv_ref, true_or, or_true, true_and, and_true, nI_ltI, ix_nI, nI_clamp, ps_i, ps_n, Option.bind_some, sm_0, sm_1, sm_2, sm_3, sm_4, sto_0, sto_1, sto_2, sto_3, sto_4, sto_5, sto_6, sto_7, sto_8, sto_9, sto_10, sto_11, sto_12, sto_13, sto_14, nlo_n, nlo_i, nlo_r, nlo_0, nlo_l, and_self, or_self, Nat.reduceEqDiff, Nat.reduceLT, Nat.reduceLeDiff, Nat.one_ne_zero, Nat.zero_ne_one, m0, q11, z1, z2, g, bI_eq, c3, c4, g4, f5, hq, nI_add, c5, eo, gm]
      · rw [if_neg c5] at g4
        rw [if_neg c5]
        have f5 : (-1 : Int32) < nI 0 := by decide +kernel
        refine ⟨nI 0, j_up M o 8 (nI q), ?_, vf_8, (fun e => by cases e), fun _ => up_s _ _ _⟩
        rw [j_C_eq]
        simp (disch := omega) only [st_160_0, st_160_1, st_160_4, st_160_5, st_160_6, st_160_8, st_160_11, st_160_12, st_160_14, st_160_17, st_160_18, st_160_21, st_160_22, st_160_25, st_160_26, st_160_29, st_160_30, st_160_31, st_160_31r, st_160_32, st_160_35, st_160_36, st_160_37, st_160_40, st_160_41, st_160_41r, st_160_42, st_160_45, st_160_46, st_160_47, st_160_50, st_160_51, st_160_53, st_160_56, st_160_57, st_160_60, st_160_63, st_160_64, st_160_67, st_160_68, st_160_69, st_160_71, st_160_74, st_160_75, st_160_77, st_160_80, st_160_83, st_160_84, st_160_87, st_160_88, st_160_89, st_160_89r, st_160_90, st_160_93, st_160_94, st_160_95, st_160_98, st_160_99, st_160_101, st_160_104, st_160_105, st_160_108, st_160_109, st_160_112, st_160_113, st_160_116, st_160_117, st_160_118, st_160_119, st_160_120, st_160_123, st_160_124, st_160_125, st_160_128, st_160_129, st_160_129r, st_160_130, st_160_133, st_160_134, st_160_135, st_160_138, st_160_139, st_160_142, st_160_143, st_160_144, st_160_145, st_160_146, st_160_147, st_160_148, st_160_152, st_160_153, st_160_156, st_160_157, st_160_160, st_160_161, st_160_164, st_160_167, st_160_170, st_160_173, st_160_175, st_160_176, st_160_177, st_160_178, st_160_181, st_160_182, st_160_184, st_160_185, st_160_186, st_160_187, st_160_187r, st_160_188, st_160_191, st_160_192, st_160_193, st_160_196, st_160_199, st_160_202, st_160_204, st_160_207, st_160_208, st_160_211, st_160_214, st_160_215, ini_160, fs_cl, fs_len, fs_rf, fs_M, fs_put, fs_cpy, ↓reduceIte, rv_ref, true_or, or_true, true_and, and_true, nI_ltI, ix_nI, nI_clamp, ps_i, ps_n, Option.bind_some, sm_0, sm_1, sm_2, sm_3, sm_4, sto_0, sto_1, sto_2, sto_3, sto_4, sto_5, sto_6, sto_7, sto_8, sto_9, sto_10, sto_11, sto_12, sto_13, sto_14, nlo_n, nlo_i, nlo_r, nlo_0, nlo_l, and_self, or_self, Nat.reduceEqDiff, Nat.reduceLT, Nat.reduceLeDiff, Nat.one_ne_zero, Nat.zero_ne_one, m0, g, bI_eq, c3, c4, g4, f5]
        rw [st_160_150]
        simp (disch := omega) only [st_160_0, st_160_1, st_160_4, st_160_5, st_160_6, st_160_8, st_160_11, st_160_12, st_160_14, st_160_17, st_160_18, st_160_21, st_160_22, st_160_25, st_160_26, st_160_29, st_160_30, st_160_31, st_160_31r, st_160_32, st_160_35, st_160_36, st_160_37, st_160_40, st_160_41, st_160_41r, st_160_42, st_160_45, st_160_46, st_160_47, st_160_50, st_160_51, st_160_53, st_160_56, st_160_57, st_160_60, st_160_63, st_160_64, st_160_67, st_160_68, st_160_69, st_160_71, st_160_74, st_160_75, st_160_77, st_160_80, st_160_83, st_160_84, st_160_87, st_160_88, st_160_89, st_160_89r, st_160_90, st_160_93, st_160_94, st_160_95, st_160_98, st_160_99, st_160_101, st_160_104, st_160_105, st_160_108, st_160_109, st_160_112, st_160_113, st_160_116, st_160_117, st_160_118, st_160_119, st_160_120, st_160_123, st_160_124, st_160_125, st_160_128, st_160_129, st_160_129r, st_160_130, st_160_133, st_160_134, st_160_135, st_160_138, st_160_139, st_160_142, st_160_143, st_160_144, st_160_145, st_160_146, st_160_147, st_160_148, st_160_152, st_160_153, st_160_156, st_160_157, st_160_160, st_160_161, st_160_164, st_160_167, st_160_170, st_160_173, st_160_175, st_160_176, st_160_177, st_160_178, st_160_181, st_160_182, st_160_184, st_160_185, st_160_186, st_160_187, st_160_187r, st_160_188, st_160_191, st_160_192, st_160_193, st_160_196, st_160_199, st_160_202, st_160_204, st_160_207, st_160_208, st_160_211, st_160_214, st_160_215, ini_160, fs_cl, fs_len, fs_rf, fs_M, fs_put, fs_cpy, ↓reduceIte, rv_ref, true_or, or_true, true_and, and_true, nI_ltI, ix_nI, nI_clamp, ps_i, ps_n, Option.bind_some, sm_0, sm_1, sm_2, sm_3, sm_4, sto_0, sto_1, sto_2, sto_3, sto_4, sto_5, sto_6, sto_7, sto_8, sto_9, sto_10, sto_11, sto_12, sto_13, sto_14, nlo_n, nlo_i, nlo_r, nlo_0, nlo_l, and_self, or_self, Nat.reduceEqDiff, Nat.reduceLT, Nat.reduceLeDiff, Nat.one_ne_zero, Nat.zero_ne_one, m0, g, gl, t0, gw]
/-- behind a fault nothing is read -/
theorem r160f (hk : Md h o) (hu : u < 2) (h10 : M o 10 = nI u) {j : Nat} (h8 : M o 8 = nI j) (hj : j < 1000) {e : Nat} (he : 3 ≤ e) : j_C e 160 [.ref o] (FS h M) = some (some (.int (nI 0)), FS h M) := by
  obtain ⟨e, rfl⟩ : ∃ d, e = d + 1 := ⟨e - 1, by omega⟩
  have m0 := hk.1
  have g := r151f hk h8 hj (e := e) (by omega)
  have g4 := r154 hk hu h10 256 (e := e) (by omega)
  rw [show bI 256 = -1 by decide +kernel] at g4
  have k4 : nmI u 256 = -1 := by
    have k : ∀ u, u < 2 → nmI u 256 = -1 := by decide +kernel
    exact k u hu
  rw [k4] at g4
  have f5 : (-1 : Int32) < nI 0 := by decide +kernel
  have n33 := m1_ne (x := 33) (by omega)
  have n40 := m1_ne (x := 40) (by omega)
  have gl := r143 (σ := FS h M) (d := e - 1) (-1 : Int32).toInt64 (lN 48) (lN 57)
  rw [show lin (-1 : Int32).toInt64 (lN 48) (lN 57) = nI 0 by decide +kernel, show e - 1 + 1 = e by omega] at gl
  have gw := r152f hk h8 hj (e := e) (by omega)
  have t0 : (0 : Nat) < 4 := by omega
  rw [j_C_eq]
  simp (disch := omega) only [st_160_0, st_160_1, st_160_4, st_160_5, st_160_6, st_160_8, st_160_11, st_160_12, st_160_14, st_160_17, st_160_18, st_160_21, st_160_22, st_160_25, st_160_26, st_160_29, st_160_30, st_160_31, st_160_31r, st_160_32, st_160_35, st_160_36, st_160_37, st_160_40, st_160_41, st_160_41r, st_160_42, st_160_45, st_160_46, st_160_47, st_160_50, st_160_51, st_160_53, st_160_56, st_160_57, st_160_60, st_160_63, st_160_64, st_160_67, st_160_68, st_160_69, st_160_71, st_160_74, st_160_75, st_160_77, st_160_80, st_160_83, st_160_84, st_160_87, st_160_88, st_160_89, st_160_89r, st_160_90, st_160_93, st_160_94, st_160_95, st_160_98, st_160_99, st_160_101, st_160_104, st_160_105, st_160_108, st_160_109, st_160_112, st_160_113, st_160_116, st_160_117, st_160_118, st_160_119, st_160_120, st_160_123, st_160_124, st_160_125, st_160_128, st_160_129, st_160_129r, st_160_130, st_160_133, st_160_134, st_160_135, st_160_138, st_160_139, st_160_142, st_160_143, st_160_144, st_160_145, st_160_146, st_160_147, st_160_148, st_160_152, st_160_153, st_160_156, st_160_157, st_160_160, st_160_161, st_160_164, st_160_167, st_160_170, st_160_173, st_160_175, st_160_176, st_160_177, st_160_178, st_160_181, st_160_182, st_160_184, st_160_185, st_160_186, st_160_187, st_160_187r, st_160_188, st_160_191, st_160_192, st_160_193, st_160_196, st_160_199, st_160_202, st_160_204, st_160_207, st_160_208, st_160_211, st_160_214, st_160_215, ini_160, fs_cl, fs_len, fs_rf, fs_M, fs_put, fs_cpy, ↓reduceIte, rv_ref, true_or, or_true, true_and, and_true, nI_ltI, ix_nI, nI_clamp, ps_i, ps_n, Option.bind_some, sm_0, sm_1, sm_2, sm_3, sm_4, sto_0, sto_1, sto_2, sto_3, sto_4, sto_5, sto_6, sto_7, sto_8, sto_9, sto_10, sto_11, sto_12, sto_13, sto_14, nlo_n, nlo_i, nlo_r, nlo_0, nlo_l, and_self, or_self, Nat.reduceEqDiff, Nat.reduceLT, Nat.reduceLeDiff, Nat.one_ne_zero, Nat.zero_ne_one, m0, g, n33, n40, g4, f5]
  rw [st_160_150]
  simp (disch := omega) only [st_160_0, st_160_1, st_160_4, st_160_5, st_160_6, st_160_8, st_160_11, st_160_12, st_160_14, st_160_17, st_160_18, st_160_21, st_160_22, st_160_25, st_160_26, st_160_29, st_160_30, st_160_31, st_160_31r, st_160_32, st_160_35, st_160_36, st_160_37, st_160_40, st_160_41, st_160_41r, st_160_42, st_160_45, st_160_46, st_160_47, st_160_50, st_160_51, st_160_53, st_160_56, st_160_57, st_160_60, st_160_63, st_160_64, st_160_67, st_160_68, st_160_69, st_160_71, st_160_74, st_160_75, st_160_77, st_160_80, st_160_83, st_160_84, st_160_87, st_160_88, st_160_89, st_160_89r, st_160_90, st_160_93, st_160_94, st_160_95, st_160_98, st_160_99, st_160_101, st_160_104, st_160_105, st_160_108, st_160_109, st_160_112, st_160_113, st_160_116, st_160_117, st_160_118, st_160_119, st_160_120, st_160_123, st_160_124, st_160_125, st_160_128, st_160_129, st_160_129r, st_160_130, st_160_133, st_160_134, st_160_135, st_160_138, st_160_139, st_160_142, st_160_143, st_160_144, st_160_145, st_160_146, st_160_147, st_160_148, st_160_152, st_160_153, st_160_156, st_160_157, st_160_160, st_160_161, st_160_164, st_160_167, st_160_170, st_160_173, st_160_175, st_160_176, st_160_177, st_160_178, st_160_181, st_160_182, st_160_184, st_160_185, st_160_186, st_160_187, st_160_187r, st_160_188, st_160_191, st_160_192, st_160_193, st_160_196, st_160_199, st_160_202, st_160_204, st_160_207, st_160_208, st_160_211, st_160_214, st_160_215, ini_160, fs_cl, fs_len, fs_rf, fs_M, fs_put, fs_cpy, ↓reduceIte, rv_ref, true_or, or_true, true_and, and_true, nI_ltI, ix_nI, nI_clamp, ps_i, ps_n, Option.bind_some, sm_0, sm_1, sm_2, sm_3, sm_4, sto_0, sto_1, sto_2, sto_3, sto_4, sto_5, sto_6, sto_7, sto_8, sto_9, sto_10, sto_11, sto_12, sto_13, sto_14, nlo_n, nlo_i, nlo_r, nlo_0, nlo_l, and_self, or_self, Nat.reduceEqDiff, Nat.reduceLT, Nat.reduceLeDiff, Nat.one_ne_zero, Nat.zero_ne_one, m0, g, gl, t0, gw]

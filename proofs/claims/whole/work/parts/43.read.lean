/-! The class's Reader. -/
variable {h : j_Hd} {M : Nat → Nat → Int32} {σ : j_St} {d p tp : Nat} {B : Nat → Nat} {n u : Nat}
def Rd (h : j_Hd) (p : Nat) : Prop := hC h p = 3 ∧ hR h p 0 = p + 1 ∧ Nb h (p + 1) (p + 2) 50
/-- what is read, and for what -/
def Fx (h : j_Hd) (M : Nat → Nat → Int32) (p tp : Nat) (B : Nat → Nat) (n u : Nat) : Prop := Nb h tp (tp + 1) 50 ∧ tp + 1 < p ∧ (1 ≤ tp ∧ tp < 1000) ∧ n ≤ 50 ∧ u < 2 ∧ M p 1 = nI tp ∧ M p 2 = nI u ∧ M tp 1 = nI n ∧ ∀ i, i < n → M (tp + 1) i = nI (B i) ∧ B i < 256
def rf (p : Nat) (M M' : Nat → Nat → Int32) : Prop := (∀ x, x ≠ p → x ≠ p + 1 → x ≠ p + 2 → M' x = M x) ∧ ∀ k, k ≠ 3 → M' p k = M p k
theorem rf_r : rf p M M := ⟨fun _ _ _ _ => rfl, fun _ _ => rfl⟩
theorem rf_t {M1 M2 M3 : Nat → Nat → Int32} (h1 : rf p M1 M2) (h2 : rf p M2 M3) : rf p M1 M3 := ⟨fun x a b c => by rw [h2.1 x a b c, h1.1 x a b c], fun k a => by rw [h2.2 k a, h1.2 k a]⟩
theorem Fx_rf {M' : Nat → Nat → Int32} (hf : Fx h M p tp B n u) (hr : rf p M M') : Fx h M' p tp B n u := by
  obtain ⟨a1, a2, a3, a4, a5, a6, a7, a8, a9⟩ := hf
  refine ⟨a1, a2, a3, a4, a5, ?_, ?_, ?_, ?_⟩
  · rw [hr.2 1 (by omega)]; exact a6
  · rw [hr.2 2 (by omega)]; exact a7
  · rw [hr.1 tp (by omega) (by omega) (by omega)]; exact a8
  · rw [hr.1 (tp + 1) (by omega) (by omega) (by omega)]; exact a9
/-- the code so far -/
def Kd (M : Nat → Nat → Int32) (p : Nat) (C : List Int32) : Prop := M (p + 1) 1 = nI C.length ∧ Seg (M (p + 2)) 0 C
theorem Seg_app {f : Nat → Int32} {v : Int32} : ∀ (l : List Int32) (i : Nat), Seg f i l → f (i + l.length) = v → Seg f i (l ++ [v]) := by
  intro l
  induction l with
  | nil => intro i _ h2; exact ⟨h2, trivial⟩
  | cons x l ih =>
    intro i h1 h2
    refine ⟨h1.1, ih (i + 1) h1.2 ?_⟩
    rw [List.length_cons] at h2
    rw [show i + 1 + l.length = i + (l.length + 1) by omega]; exact h2
theorem rd_add (hp : Rd h p) {C : List Int32} (hk : Kd M p C) (hl : C.length < 50) (v : Int32) {e : Nat} (he : 1 ≤ e) : ∃ M', j_C e 36 [.ref (p + 1), .int v] (FS h M) = some (some (.int (nI 1)), FS h M') ∧ Kd M' p (C ++ [v]) ∧ ∀ x, x ≠ p + 1 → x ≠ p + 2 → M' x = M x := by
  obtain ⟨d, rfl⟩ : ∃ d, e = d + 1 := ⟨e - 1, by omega⟩
  obtain ⟨M', p1, p2, p3, p4, p5⟩ := n36x (d := d) hp.2.2 hk.1 hl v
  refine ⟨M', p1, ⟨?_, Seg_app C 0 ?_ ?_⟩, p5⟩
  · rw [List.length_append, List.length_singleton]; exact p2
  · exact Seg_cg (fun j hj => p4 j (by omega)) hk.2
  · rw [Nat.zero_add]; exact p3
theorem rd_nx (hp : Rd h p) (hf : Fx h M p tp B n u) {q : Nat} (hq : M p 3 = nI q) (hqn : q ≤ n) {e : Nat} (he : 2 ≤ e) : j_C e 50 [.ref p] (FS h M) = some (some (.int (bI (nx B n q))), FS h M) := by
  obtain ⟨d, rfl⟩ : ∃ d, e = d + 2 := ⟨e - 2, by omega⟩
  obtain ⟨a1, a2, a3, a4, a5, a6, a7, a8, a9⟩ := hf
  have p1 := hp.1
  have ec : (nI tp).toNatClampNeg = tp := nI_clamp (by omega)
  rw [j_C_eq]
  unfold nx
  by_cases c : q < n
  · have g := n33i (d := d) (M := M) a1 (by omega : q < 50)
    rw [(a9 q c).1] at g
    rw [if_pos c, bI_lt (a9 q c).2]
    simp (disch := omega) only [st_50_0, st_50_1, st_50_4, st_50_5, st_50_8, st_50_11, st_50_14, st_50_15, st_50_18, st_50_19, st_50_22, st_50_25, st_50_28, st_50_29, ini_50, fs_cl, fs_len, fs_rf, fs_M, fs_put, fs_cpy, ↓reduceIte, rv_ref, true_or, or_true, true_and, and_true, nI_ltI, ix_nI, nI_clamp, ps_i, ps_n, Option.bind_some, sm_0, sm_1, sm_2, sm_3, sm_4, sto_0, sto_1, sto_2, sto_3, sto_4, sto_5, sto_6, sto_7, sto_8, sto_9, sto_10, sto_11, sto_12, sto_13, sto_14, nlo_n, nlo_i, nlo_r, nlo_0, nlo_l, and_self, or_self, Nat.reduceEqDiff, Nat.reduceLT, Nat.reduceLeDiff, Nat.one_ne_zero, Nat.zero_ne_one, p1, hq, a6, a8, ec, a1.1, n32 a1.1, c, g]
  · rw [if_neg c]
    have e2 : bI 256 = -1 := by decide +kernel
    simp (disch := omega) only [st_50_0, st_50_1, st_50_4, st_50_5, st_50_8, st_50_11, st_50_14, st_50_15, st_50_18, st_50_19, st_50_22, st_50_25, st_50_28, st_50_29, ini_50, fs_cl, fs_len, fs_rf, fs_M, fs_put, fs_cpy, ↓reduceIte, rv_ref, true_or, or_true, true_and, and_true, nI_ltI, ix_nI, nI_clamp, ps_i, ps_n, Option.bind_some, sm_0, sm_1, sm_2, sm_3, sm_4, sto_0, sto_1, sto_2, sto_3, sto_4, sto_5, sto_6, sto_7, sto_8, sto_9, sto_10, sto_11, sto_12, sto_13, sto_14, nlo_n, nlo_i, nlo_r, nlo_0, nlo_l, and_self, or_self, Nat.reduceEqDiff, Nat.reduceLT, Nat.reduceLeDiff, Nat.one_ne_zero, Nat.zero_ne_one, p1, hq, a6, a8, ec, a1.1, n32 a1.1, c, e2]
theorem c52 (x : Nat) (hx : x ≤ 256) {e : Nat} (he : 1 ≤ e) : j_C e 52 [.int (bI x)] σ = some (some (.int (if dgt x = true then nI 1 else nI 0)), σ) := by
  obtain ⟨d, rfl⟩ : ∃ d, e = d + 1 := ⟨e - 1, by omega⟩
  have k1 : ∀ x, x ≤ 256 → (bI x < nI 48 ↔ x < 48 ∨ x = 256) := by decide +kernel
  have k2 : ∀ x, x ≤ 256 → (nI 57 < bI x ↔ 57 < x ∧ x ≠ 256) := by decide +kernel
  have k1 := k1 x hx
  have k2 := k2 x hx
  rw [j_C_eq]
  by_cases c : dgt x = true
  · rw [if_pos c]
    rw [dgt_t] at c
    have f1 : ¬ bI x < nI 48 := by rw [k1]; omega
    have f2 : ¬ nI 57 < bI x := by rw [k2]; omega
    simp only [st_52_0, st_52_1, st_52_3, st_52_6, st_52_7, st_52_9, st_52_12, st_52_13, st_52_16, st_52_17, ini_52, fs_cl, fs_len, fs_rf, fs_M, fs_put, fs_cpy, ↓reduceIte, rv_ref, true_or, or_true, true_and, and_true, nI_ltI, ix_nI, nI_clamp, ps_i, ps_n, Option.bind_some, sm_0, sm_1, sm_2, sm_3, sm_4, sto_0, sto_1, sto_2, sto_3, sto_4, sto_5, sto_6, sto_7, sto_8, sto_9, sto_10, sto_11, sto_12, sto_13, sto_14, nlo_n, nlo_i, nlo_r, nlo_0, nlo_l, and_self, or_self, Nat.reduceEqDiff, Nat.reduceLT, Nat.reduceLeDiff, Nat.one_ne_zero, Nat.zero_ne_one, f1, f2]
  · rw [if_neg c]
    rw [dgt_t] at c
    by_cases f1 : bI x < nI 48
    · simp only [st_52_0, st_52_1, st_52_3, st_52_6, st_52_7, st_52_9, st_52_12, st_52_13, st_52_16, st_52_17, ini_52, fs_cl, fs_len, fs_rf, fs_M, fs_put, fs_cpy, ↓reduceIte, rv_ref, true_or, or_true, true_and, and_true, nI_ltI, ix_nI, nI_clamp, ps_i, ps_n, Option.bind_some, sm_0, sm_1, sm_2, sm_3, sm_4, sto_0, sto_1, sto_2, sto_3, sto_4, sto_5, sto_6, sto_7, sto_8, sto_9, sto_10, sto_11, sto_12, sto_13, sto_14, nlo_n, nlo_i, nlo_r, nlo_0, nlo_l, and_self, or_self, Nat.reduceEqDiff, Nat.reduceLT, Nat.reduceLeDiff, Nat.one_ne_zero, Nat.zero_ne_one, f1]
    · have f2 : nI 57 < bI x := by rw [k2]; rw [k1] at f1; omega
      simp only [st_52_0, st_52_1, st_52_3, st_52_6, st_52_7, st_52_9, st_52_12, st_52_13, st_52_16, st_52_17, ini_52, fs_cl, fs_len, fs_rf, fs_M, fs_put, fs_cpy, ↓reduceIte, rv_ref, true_or, or_true, true_and, and_true, nI_ltI, ix_nI, nI_clamp, ps_i, ps_n, Option.bind_some, sm_0, sm_1, sm_2, sm_3, sm_4, sto_0, sto_1, sto_2, sto_3, sto_4, sto_5, sto_6, sto_7, sto_8, sto_9, sto_10, sto_11, sto_12, sto_13, sto_14, nlo_n, nlo_i, nlo_r, nlo_0, nlo_l, and_self, or_self, Nat.reduceEqDiff, Nat.reduceLT, Nat.reduceLeDiff, Nat.one_ne_zero, Nat.zero_ne_one, f1, f2]
theorem c53 (x : Nat) {e : Nat} (he : 1 ≤ e) : j_C e 53 [.int (bI x)] σ = some (some (.int (lvI x)), σ) := by
  obtain ⟨d, rfl⟩ : ∃ d, e = d + 1 := ⟨e - 1, by omega⟩
  rw [j_C_eq]
  by_cases e1 : x = 37
  · have ev : lvI x = nI 4 := by subst e1; decide +kernel
    rw [ev]
    simp (disch := omega) only [st_53_0, st_53_1, st_53_92, st_53_93, st_53_94, st_53_95, st_53_96, st_53_97, st_53_98, st_53_99, st_53_100, st_53_101, st_53_102, st_53_103, ini_53, fs_cl, fs_len, fs_rf, fs_M, fs_put, fs_cpy, ↓reduceIte, rv_ref, true_or, or_true, true_and, and_true, nI_ltI, ix_nI, nI_clamp, ps_i, ps_n, Option.bind_some, sm_0, sm_1, sm_2, sm_3, sm_4, sto_0, sto_1, sto_2, sto_3, sto_4, sto_5, sto_6, sto_7, sto_8, sto_9, sto_10, sto_11, sto_12, sto_13, sto_14, nlo_n, nlo_i, nlo_r, nlo_0, nlo_l, and_self, or_self, Nat.reduceEqDiff, Nat.reduceLT, Nat.reduceLeDiff, Nat.one_ne_zero, Nat.zero_ne_one, bI_eq, eq_true e1]
  · by_cases e2 : x = 38
    · have ev : lvI x = nI 1 := by subst e2; decide +kernel
      rw [ev]
      simp (disch := omega) only [st_53_0, st_53_1, st_53_92, st_53_93, st_53_94, st_53_95, st_53_96, st_53_97, st_53_98, st_53_99, st_53_100, st_53_101, st_53_102, st_53_103, ini_53, fs_cl, fs_len, fs_rf, fs_M, fs_put, fs_cpy, ↓reduceIte, rv_ref, true_or, or_true, true_and, and_true, nI_ltI, ix_nI, nI_clamp, ps_i, ps_n, Option.bind_some, sm_0, sm_1, sm_2, sm_3, sm_4, sto_0, sto_1, sto_2, sto_3, sto_4, sto_5, sto_6, sto_7, sto_8, sto_9, sto_10, sto_11, sto_12, sto_13, sto_14, nlo_n, nlo_i, nlo_r, nlo_0, nlo_l, and_self, or_self, Nat.reduceEqDiff, Nat.reduceLT, Nat.reduceLeDiff, Nat.one_ne_zero, Nat.zero_ne_one, bI_eq, e1, eq_true e2]
    · by_cases e3 : x = 42
      · have ev : lvI x = nI 4 := by subst e3; decide +kernel
        rw [ev]
        simp (disch := omega) only [st_53_0, st_53_1, st_53_92, st_53_93, st_53_94, st_53_95, st_53_96, st_53_97, st_53_98, st_53_99, st_53_100, st_53_101, st_53_102, st_53_103, ini_53, fs_cl, fs_len, fs_rf, fs_M, fs_put, fs_cpy, ↓reduceIte, rv_ref, true_or, or_true, true_and, and_true, nI_ltI, ix_nI, nI_clamp, ps_i, ps_n, Option.bind_some, sm_0, sm_1, sm_2, sm_3, sm_4, sto_0, sto_1, sto_2, sto_3, sto_4, sto_5, sto_6, sto_7, sto_8, sto_9, sto_10, sto_11, sto_12, sto_13, sto_14, nlo_n, nlo_i, nlo_r, nlo_0, nlo_l, and_self, or_self, Nat.reduceEqDiff, Nat.reduceLT, Nat.reduceLeDiff, Nat.one_ne_zero, Nat.zero_ne_one, bI_eq, e1, e2, eq_true e3]
      · by_cases e4 : x = 43
        · have ev : lvI x = nI 3 := by subst e4; decide +kernel
          rw [ev]
          simp (disch := omega) only [st_53_0, st_53_1, st_53_92, st_53_93, st_53_94, st_53_95, st_53_96, st_53_97, st_53_98, st_53_99, st_53_100, st_53_101, st_53_102, st_53_103, ini_53, fs_cl, fs_len, fs_rf, fs_M, fs_put, fs_cpy, ↓reduceIte, rv_ref, true_or, or_true, true_and, and_true, nI_ltI, ix_nI, nI_clamp, ps_i, ps_n, Option.bind_some, sm_0, sm_1, sm_2, sm_3, sm_4, sto_0, sto_1, sto_2, sto_3, sto_4, sto_5, sto_6, sto_7, sto_8, sto_9, sto_10, sto_11, sto_12, sto_13, sto_14, nlo_n, nlo_i, nlo_r, nlo_0, nlo_l, and_self, or_self, Nat.reduceEqDiff, Nat.reduceLT, Nat.reduceLeDiff, Nat.one_ne_zero, Nat.zero_ne_one, bI_eq, e1, e2, e3, eq_true e4]
        · by_cases e5 : x = 45
          · have ev : lvI x = nI 3 := by subst e5; decide +kernel
            rw [ev]
            simp (disch := omega) only [st_53_0, st_53_1, st_53_92, st_53_93, st_53_94, st_53_95, st_53_96, st_53_97, st_53_98, st_53_99, st_53_100, st_53_101, st_53_102, st_53_103, ini_53, fs_cl, fs_len, fs_rf, fs_M, fs_put, fs_cpy, ↓reduceIte, rv_ref, true_or, or_true, true_and, and_true, nI_ltI, ix_nI, nI_clamp, ps_i, ps_n, Option.bind_some, sm_0, sm_1, sm_2, sm_3, sm_4, sto_0, sto_1, sto_2, sto_3, sto_4, sto_5, sto_6, sto_7, sto_8, sto_9, sto_10, sto_11, sto_12, sto_13, sto_14, nlo_n, nlo_i, nlo_r, nlo_0, nlo_l, and_self, or_self, Nat.reduceEqDiff, Nat.reduceLT, Nat.reduceLeDiff, Nat.one_ne_zero, Nat.zero_ne_one, bI_eq, e1, e2, e3, e4, eq_true e5]
          · by_cases e6 : x = 47
            · have ev : lvI x = nI 4 := by subst e6; decide +kernel
              rw [ev]
              simp (disch := omega) only [st_53_0, st_53_1, st_53_92, st_53_93, st_53_94, st_53_95, st_53_96, st_53_97, st_53_98, st_53_99, st_53_100, st_53_101, st_53_102, st_53_103, ini_53, fs_cl, fs_len, fs_rf, fs_M, fs_put, fs_cpy, ↓reduceIte, rv_ref, true_or, or_true, true_and, and_true, nI_ltI, ix_nI, nI_clamp, ps_i, ps_n, Option.bind_some, sm_0, sm_1, sm_2, sm_3, sm_4, sto_0, sto_1, sto_2, sto_3, sto_4, sto_5, sto_6, sto_7, sto_8, sto_9, sto_10, sto_11, sto_12, sto_13, sto_14, nlo_n, nlo_i, nlo_r, nlo_0, nlo_l, and_self, or_self, Nat.reduceEqDiff, Nat.reduceLT, Nat.reduceLeDiff, Nat.one_ne_zero, Nat.zero_ne_one, bI_eq, e1, e2, e3, e4, e5, eq_true e6]
            · by_cases e7 : x = 60
              · have ev : lvI x = nI 2 := by subst e7; decide +kernel
                rw [ev]
                simp (disch := omega) only [st_53_0, st_53_1, st_53_92, st_53_93, st_53_94, st_53_95, st_53_96, st_53_97, st_53_98, st_53_99, st_53_100, st_53_101, st_53_102, st_53_103, ini_53, fs_cl, fs_len, fs_rf, fs_M, fs_put, fs_cpy, ↓reduceIte, rv_ref, true_or, or_true, true_and, and_true, nI_ltI, ix_nI, nI_clamp, ps_i, ps_n, Option.bind_some, sm_0, sm_1, sm_2, sm_3, sm_4, sto_0, sto_1, sto_2, sto_3, sto_4, sto_5, sto_6, sto_7, sto_8, sto_9, sto_10, sto_11, sto_12, sto_13, sto_14, nlo_n, nlo_i, nlo_r, nlo_0, nlo_l, and_self, or_self, Nat.reduceEqDiff, Nat.reduceLT, Nat.reduceLeDiff, Nat.one_ne_zero, Nat.zero_ne_one, bI_eq, e1, e2, e3, e4, e5, e6, eq_true e7]
              · by_cases e8 : x = 61
                · have ev : lvI x = nI 2 := by subst e8; decide +kernel
                  rw [ev]
                  simp (disch := omega) only [st_53_0, st_53_1, st_53_92, st_53_93, st_53_94, st_53_95, st_53_96, st_53_97, st_53_98, st_53_99, st_53_100, st_53_101, st_53_102, st_53_103, ini_53, fs_cl, fs_len, fs_rf, fs_M, fs_put, fs_cpy, ↓reduceIte, rv_ref, true_or, or_true, true_and, and_true, nI_ltI, ix_nI, nI_clamp, ps_i, ps_n, Option.bind_some, sm_0, sm_1, sm_2, sm_3, sm_4, sto_0, sto_1, sto_2, sto_3, sto_4, sto_5, sto_6, sto_7, sto_8, sto_9, sto_10, sto_11, sto_12, sto_13, sto_14, nlo_n, nlo_i, nlo_r, nlo_0, nlo_l, and_self, or_self, Nat.reduceEqDiff, Nat.reduceLT, Nat.reduceLeDiff, Nat.one_ne_zero, Nat.zero_ne_one, bI_eq, e1, e2, e3, e4, e5, e6, e7, eq_true e8]
                · by_cases e9 : x = 62
                  · have ev : lvI x = nI 2 := by subst e9; decide +kernel
                    rw [ev]
                    simp (disch := omega) only [st_53_0, st_53_1, st_53_92, st_53_93, st_53_94, st_53_95, st_53_96, st_53_97, st_53_98, st_53_99, st_53_100, st_53_101, st_53_102, st_53_103, ini_53, fs_cl, fs_len, fs_rf, fs_M, fs_put, fs_cpy, ↓reduceIte, rv_ref, true_or, or_true, true_and, and_true, nI_ltI, ix_nI, nI_clamp, ps_i, ps_n, Option.bind_some, sm_0, sm_1, sm_2, sm_3, sm_4, sto_0, sto_1, sto_2, sto_3, sto_4, sto_5, sto_6, sto_7, sto_8, sto_9, sto_10, sto_11, sto_12, sto_13, sto_14, nlo_n, nlo_i, nlo_r, nlo_0, nlo_l, and_self, or_self, Nat.reduceEqDiff, Nat.reduceLT, Nat.reduceLeDiff, Nat.one_ne_zero, Nat.zero_ne_one, bI_eq, e1, e2, e3, e4, e5, e6, e7, e8, eq_true e9]
                  · by_cases e10 : x = 124
                    · have ev : lvI x = nI 0 := by subst e10; decide +kernel
                      rw [ev]
                      simp (disch := omega) only [st_53_0, st_53_1, st_53_92, st_53_93, st_53_94, st_53_95, st_53_96, st_53_97, st_53_98, st_53_99, st_53_100, st_53_101, st_53_102, st_53_103, ini_53, fs_cl, fs_len, fs_rf, fs_M, fs_put, fs_cpy, ↓reduceIte, rv_ref, true_or, or_true, true_and, and_true, nI_ltI, ix_nI, nI_clamp, ps_i, ps_n, Option.bind_some, sm_0, sm_1, sm_2, sm_3, sm_4, sto_0, sto_1, sto_2, sto_3, sto_4, sto_5, sto_6, sto_7, sto_8, sto_9, sto_10, sto_11, sto_12, sto_13, sto_14, nlo_n, nlo_i, nlo_r, nlo_0, nlo_l, and_self, or_self, Nat.reduceEqDiff, Nat.reduceLT, Nat.reduceLeDiff, Nat.one_ne_zero, Nat.zero_ne_one, bI_eq, e1, e2, e3, e4, e5, e6, e7, e8, e9, eq_true e10]
                    · have ev : lvI x = -1 := by unfold lvI lvN; simp [e1, e2, e3, e4, e5, e6, e7, e8, e9, e10]
                      rw [ev]
                      simp (disch := omega) only [st_53_0, st_53_1, st_53_92, st_53_93, st_53_94, st_53_95, st_53_96, st_53_97, st_53_98, st_53_99, st_53_100, st_53_101, st_53_102, st_53_103, ini_53, fs_cl, fs_len, fs_rf, fs_M, fs_put, fs_cpy, ↓reduceIte, rv_ref, true_or, or_true, true_and, and_true, nI_ltI, ix_nI, nI_clamp, ps_i, ps_n, Option.bind_some, sm_0, sm_1, sm_2, sm_3, sm_4, sto_0, sto_1, sto_2, sto_3, sto_4, sto_5, sto_6, sto_7, sto_8, sto_9, sto_10, sto_11, sto_12, sto_13, sto_14, nlo_n, nlo_i, nlo_r, nlo_0, nlo_l, and_self, or_self, Nat.reduceEqDiff, Nat.reduceLT, Nat.reduceLeDiff, Nat.one_ne_zero, Nat.zero_ne_one, bI_eq, e1, e2, e3, e4, e5, e6, e7, e8, e9, e10]
theorem nm_v {u : Nat} (hu : u < 2) {x : Nat} (hx : x ≤ 256) : j_nm (nI u) (bI x) = nmI u x := by
  have k : ∀ u, u < 2 → ∀ x, x ≤ 256 → j_nm (nI u) (bI x) = nmI u x := by decide +kernel
  exact k u hu x hx
/-- one place on -/
theorem rf_at {v : Int32} : rf p M (j_up M p 3 v) := ⟨fun x a _ _ => up_r _ _ _ _ a, fun k a => up_k _ _ _ _ a⟩
theorem Kd_at {v : Int32} {k : Nat} {C : List Int32} (hk : Kd M p C) : Kd (j_up M p k v) p C := by
  unfold Kd at hk ⊢
  rw [up_r _ _ _ _ (by omega), up_r _ _ _ _ (by omega)]; exact hk
/-- what a reading leaves -/
def Ro (p : Nat) (M M' : Nat → Nat → Int32) (C : List Int32) (r : tR) : Prop := rf p M M' ∧ M' p 3 = nI r.2.1 ∧ (r.1 = true → Kd M' p (C ++ r.2.2))
theorem c49 (hp : Rd h p) (hB : ∀ i, i < n → B i < 256) {q : Nat} {C : List Int32} (hf : Fx h M p tp B n u) (hq : M p 3 = nI q) (hqn : q < n) (hk : Kd M p C) (hC : C.length ≤ q) {e : Nat} (he : 3 ≤ e) : ∃ M', j_C e 49 [.ref p] (FS h M) = some (none, FS h M') ∧ rf p M M' ∧ M' p 3 = nI (pmN B n 4 q 0).2 ∧ Kd M' p (C ++ [nI (pmN B n 4 q 0).1]) := by
  obtain ⟨e, rfl⟩ : ∃ d, e = d + 1 := ⟨e - 1, by omega⟩
  have p1 := hp.1
  have p2 := hp.2.1
  have p3 := hp.2.2.1
  have e10 : ¬ nI 1 = nI 0 := by decide +kernel
  have n50 := hf.2.2.2.1
  have L : ∀ r i q v (M : Nat → Nat → Int32), r + i = 4 → Fx h M p tp B n u → M p 3 = nI q → q ≤ n → Kd M p C → ∃ M', j_X e 49 4 [some (.ref p), some (.int (nI v)), some (.int (nI i))] [] (FS h M) = some (none, FS h M') ∧ rf p M M' ∧ M' p 3 = nI (pmN B n r q v).2 ∧ Kd M' p (C ++ [nI (pmN B n r q v).1]) := by
    intro r
    induction r with
    | zero =>
      intro i q v M hr hf hq hqn hk
      have e1 : ¬ i < 4 := by omega
      obtain ⟨M', a1, a2, a3⟩ := rd_add hp hk (by omega) (nI v) (e := e) (by omega)
      refine ⟨M', ?_, ⟨fun x _ b c => a3 x b c, fun k _ => by rw [a3 p (by omega) (by omega)]⟩, ?_, a2⟩
      · rw [st_49_4]
        simp (disch := omega) only [st_49_0, st_49_1, st_49_2, st_49_3, st_49_5, st_49_6, st_49_9, st_49_10, st_49_13, st_49_16, st_49_19, st_49_20, st_49_22, st_49_23, st_49_24, st_49_27, st_49_28, st_49_30, st_49_31, st_49_32, st_49_33, st_49_33r, st_49_34, st_49_37, st_49_38, st_49_39, st_49_42, st_49_45, st_49_48, st_49_49, st_49_52, st_49_53, st_49_56, st_49_56r, st_49_57, ini_49, fs_cl, fs_len, fs_rf, fs_M, fs_put, fs_cpy, ↓reduceIte, rv_ref, true_or, or_true, true_and, and_true, nI_ltI, ix_nI, nI_clamp, ps_i, ps_n, Option.bind_some, sm_0, sm_1, sm_2, sm_3, sm_4, sto_0, sto_1, sto_2, sto_3, sto_4, sto_5, sto_6, sto_7, sto_8, sto_9, sto_10, sto_11, sto_12, sto_13, sto_14, nlo_n, nlo_i, nlo_r, nlo_0, nlo_l, and_self, or_self, Nat.reduceEqDiff, Nat.reduceLT, Nat.reduceLeDiff, Nat.one_ne_zero, Nat.zero_ne_one, p1, p2, p3, e1, a1]
      · rw [a3 p (by omega) (by omega)]; exact hq
    | succ r ih =>
      intro i q v M hr hf hq hqn hk
      have e1 : i < 4 := by omega
      have gx := rd_nx hp hf hq hqn (e := e) (by omega)
      have gd := c52 (σ := FS h M) (nx B n q) (nx_le hB q) (e := e) (by omega)
      unfold pmN
      by_cases c : dgt (nx B n q) = true
      · rw [if_pos c] at gd
        rw [if_pos c]
        have c2 := dgt_t.mp c
        have hin := nx_in (B := B) (n := n) (q := q) (by omega)
        have e5 : bI (nx B n q) = nI (nx B n q) := bI_lt (by omega)
        obtain ⟨M', a1, a2, a3, a4⟩ := ih (i + 1) (q + 1) (v * 10 + nx B n q - 48) (j_up M p 3 (nI (q + 1))) (by omega) (Fx_rf hf rf_at) (up_s _ _ _) (by omega) (Kd_at hk)
        refine ⟨M', ?_, rf_t rf_at a2, a3, a4⟩
        rw [e5] at gx gd
        have hs : ∀ k, nI (v * 10 + k) - nI 48 = nI (v * 10 + k - 48) ∨ k < 48 := fun k => by
          by_cases hk : k < 48
          · exact .inr hk
          · exact .inl (nI_sub (by omega))
        have hs := (hs (nx B n q)).resolve_right (by omega)
        rw [st_49_4]
        simp (disch := omega) only [st_49_0, st_49_1, st_49_2, st_49_3, st_49_5, st_49_6, st_49_9, st_49_10, st_49_13, st_49_16, st_49_19, st_49_20, st_49_22, st_49_23, st_49_24, st_49_27, st_49_28, st_49_30, st_49_31, st_49_32, st_49_33, st_49_33r, st_49_34, st_49_37, st_49_38, st_49_39, st_49_42, st_49_45, st_49_48, st_49_49, st_49_52, st_49_53, st_49_56, st_49_56r, st_49_57, ini_49, fs_cl, fs_len, fs_rf, fs_M, fs_put, fs_cpy, ↓reduceIte, rv_ref, true_or, or_true, true_and, and_true, nI_ltI, ix_nI, nI_clamp, ps_i, ps_n, Option.bind_some, sm_0, sm_1, sm_2, sm_3, sm_4, sto_0, sto_1, sto_2, sto_3, sto_4, sto_5, sto_6, sto_7, sto_8, sto_9, sto_10, sto_11, sto_12, sto_13, sto_14, nlo_n, nlo_i, nlo_r, nlo_0, nlo_l, and_self, or_self, Nat.reduceEqDiff, Nat.reduceLT, Nat.reduceLeDiff, Nat.one_ne_zero, Nat.zero_ne_one, p1, p2, p3, e1, gx, gd, e10, nI_mul, nI_add, hs, hq, a1]
      · rw [if_neg c] at gd
        rw [if_neg c]
        obtain ⟨M', a1, a2, a3⟩ := rd_add hp hk (by omega) (nI v) (e := e) (by omega)
        refine ⟨M', ?_, ⟨fun x _ b c => a3 x b c, fun k _ => by rw [a3 p (by omega) (by omega)]⟩, ?_, a2⟩
        · rw [st_49_4]
          simp (disch := omega) only [st_49_0, st_49_1, st_49_2, st_49_3, st_49_5, st_49_6, st_49_9, st_49_10, st_49_13, st_49_16, st_49_19, st_49_20, st_49_22, st_49_23, st_49_24, st_49_27, st_49_28, st_49_30, st_49_31, st_49_32, st_49_33, st_49_33r, st_49_34, st_49_37, st_49_38, st_49_39, st_49_42, st_49_45, st_49_48, st_49_49, st_49_52, st_49_53, st_49_56, st_49_56r, st_49_57, ini_49, fs_cl, fs_len, fs_rf, fs_M, fs_put, fs_cpy, ↓reduceIte, rv_ref, true_or, or_true, true_and, and_true, nI_ltI, ix_nI, nI_clamp, ps_i, ps_n, Option.bind_some, sm_0, sm_1, sm_2, sm_3, sm_4, sto_0, sto_1, sto_2, sto_3, sto_4, sto_5, sto_6, sto_7, sto_8, sto_9, sto_10, sto_11, sto_12, sto_13, sto_14, nlo_n, nlo_i, nlo_r, nlo_0, nlo_l, and_self, or_self, Nat.reduceEqDiff, Nat.reduceLT, Nat.reduceLeDiff, Nat.one_ne_zero, Nat.zero_ne_one, p1, p2, p3, e1, gx, gd, a1]
        · rw [a3 p (by omega) (by omega)]; exact hq
  obtain ⟨M', a1, a2⟩ := L 4 0 q 0 M (by omega) hf hq (by omega) hk
  refine ⟨M', ?_, a2⟩
  rw [j_C_eq]
  simp only [st_49_0, st_49_1, st_49_2, st_49_3, st_49_5, st_49_6, st_49_9, st_49_10, st_49_13, st_49_16, st_49_19, st_49_20, st_49_22, st_49_23, st_49_24, st_49_27, st_49_28, st_49_30, st_49_31, st_49_32, st_49_33, st_49_33r, st_49_34, st_49_37, st_49_38, st_49_39, st_49_42, st_49_45, st_49_48, st_49_49, st_49_52, st_49_53, st_49_56, st_49_56r, st_49_57, ini_49, fs_cl, fs_len, fs_rf, fs_M, fs_put, fs_cpy, ↓reduceIte, rv_ref, true_or, or_true, true_and, and_true, nI_ltI, ix_nI, nI_clamp, ps_i, ps_n, Option.bind_some, sm_0, sm_1, sm_2, sm_3, sm_4, sto_0, sto_1, sto_2, sto_3, sto_4, sto_5, sto_6, sto_7, sto_8, sto_9, sto_10, sto_11, sto_12, sto_13, sto_14, nlo_n, nlo_i, nlo_r, nlo_0, nlo_l, and_self, or_self, Nat.reduceEqDiff, Nat.reduceLT, Nat.reduceLeDiff, Nat.one_ne_zero, Nat.zero_ne_one, a1]

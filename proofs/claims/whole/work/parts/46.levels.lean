/-! The reference: what a text works out, level by level. -/
variable {h : j_Hd} {M : Nat → Nat → Int32} {σ : j_St} {d o bs : Nat} {B : Nat → Nat} {n u : Nat} {a b c : Int32}
theorem jn_37 (l r : Int32) : jn (nI 37) l r = if r = nI 0 then nI 0 else l - l / r * r := by unfold jn; rw [if_pos rfl]
theorem jn_42 (l r : Int32) : jn (nI 42) l r = l * r := by unfold jn; rw [if_neg (by decide +kernel), if_neg (by decide +kernel), if_pos rfl]
theorem jn_47 (l r : Int32) : jn (nI 47) l r = if r = nI 0 then nI 0 else l / r := by unfold jn; rw [if_neg (by decide +kernel), if_neg (by decide +kernel), if_neg (by decide +kernel), if_neg (by decide +kernel), if_neg (by decide +kernel), if_pos rfl]
theorem jn_43 (l r : Int32) : jn (nI 43) l r = l + r := by unfold jn; rw [if_neg (by decide +kernel), if_neg (by decide +kernel), if_neg (by decide +kernel), if_pos rfl]
theorem jn_45 (l r : Int32) : jn (nI 45) l r = l - r := by unfold jn; rw [if_neg (by decide +kernel), if_neg (by decide +kernel), if_neg (by decide +kernel), if_neg (by decide +kernel), if_pos rfl]
theorem jn_38 (l r : Int32) : jn (nI 38) l r = if l = nI 0 then nI 0 else if r = nI 0 then nI 0 else nI 1 := by unfold jn; rw [if_neg (by decide +kernel), if_pos rfl]
theorem jn_60 (l r : Int32) : jn (nI 60) l r = if l < r then nI 1 else nI 0 := by unfold jn; rw [if_neg (by decide +kernel), if_neg (by decide +kernel), if_neg (by decide +kernel), if_neg (by decide +kernel), if_neg (by decide +kernel), if_neg (by decide +kernel), if_pos rfl]
theorem jn_61 (l r : Int32) : jn (nI 61) l r = if l = r then nI 1 else nI 0 := by unfold jn; rw [if_neg (by decide +kernel), if_neg (by decide +kernel), if_neg (by decide +kernel), if_neg (by decide +kernel), if_neg (by decide +kernel), if_neg (by decide +kernel), if_neg (by decide +kernel), if_pos rfl]
theorem jn_62 (l r : Int32) : jn (nI 62) l r = if r < l then nI 1 else nI 0 := by unfold jn; rw [if_neg (by decide +kernel), if_neg (by decide +kernel), if_neg (by decide +kernel), if_neg (by decide +kernel), if_neg (by decide +kernel), if_neg (by decide +kernel), if_neg (by decide +kernel), if_neg (by decide +kernel), if_pos rfl]
theorem jn_124 (l r : Int32) : jn (nI 124) l r = if l = nI 0 then (if r = nI 0 then nI 0 else nI 1) else nI 1 := by unfold jn; rw [if_neg (by decide +kernel), if_neg (by decide +kernel), if_neg (by decide +kernel), if_neg (by decide +kernel), if_neg (by decide +kernel), if_neg (by decide +kernel), if_neg (by decide +kernel), if_neg (by decide +kernel), if_neg (by decide +kernel), if_pos rfl]
theorem op_d : ∀ x, x < 256 → lvN x < 9 → (-(nI x) < nI 0) ∧ (-(nI x) < (-3)) ∧ ¬ (-(nI x) = (-33)) := by decide +kernel
theorem fold_op {acc K : List Int32} {v w : Int32} {x : Nat} (h1 : ∀ l, acc.foldl (stp a b c) l = v :: l) (h2 : ∀ l, K.foldl (stp a b c) l = w :: l) (hx : lvN x < 9) (l : List Int32) : (acc ++ K ++ [-(bI x)]).foldl (stp a b c) l = jn (bI x) v w :: l := by
  have x2 := lvx_lt hx
  obtain ⟨g1, g2, g3⟩ := op_d x x2 hx
  rw [List.foldl_append, List.foldl_append, h1, h2, List.foldl_cons, List.foldl_nil, bI_lt x2]
  unfold stp
  rw [if_pos g1, if_pos g2, if_neg g3, Int32.neg_neg]
  rfl
theorem lv_4 {x : Nat} : lvN x = 4 ↔ x = 42 ∨ x = 47 ∨ x = 37 := by
  constructor
  · intro h; unfold lvN at h; repeat' split at h
    all_goals omega
  · intro h; rcases h with e | e | e <;> (subst e; rfl)
theorem lv_3 {x : Nat} : lvN x = 3 ↔ x = 43 ∨ x = 45 := by
  constructor
  · intro h; unfold lvN at h; repeat' split at h
    all_goals omega
  · intro h; rcases h with e | e <;> (subst e; rfl)
theorem lv_2 {x : Nat} : lvN x = 2 ↔ x = 60 ∨ x = 61 ∨ x = 62 := by
  constructor
  · intro h; unfold lvN at h; repeat' split at h
    all_goals omega
  · intro h; rcases h with e | e | e <;> (subst e; rfl)
theorem lv_1 {x : Nat} : lvN x = 1 ↔ x = 38 := by
  constructor
  · intro h; unfold lvN at h; repeat' split at h
    all_goals omega
  · intro h; subst h; rfl
theorem lv_0 {x : Nat} : lvN x = 0 ↔ x = 124 := by
  constructor
  · intro h; unfold lvN at h; repeat' split at h
    all_goals omega
  · intro h; subst h; rfl
theorem r159x (hk : Md h o) {j : Nat} (h8 : M o 8 = nI j) (hj : j < 1000) {e : Nat} (he : 1 ≤ e) (v : Int32) (o2 o3 : Option Value) : j_X e 159 5 [some (.ref o), some (.int v), o2, o3] [] (FS h M) = some (some (.int v), FS h M) := by
  have m0 := hk.1
  have g := r151f hk h8 hj (e := e) he
  have n42 := m1_ne (x := 42) (by omega)
  have n47 := m1_ne (x := 47) (by omega)
  have n37 := m1_ne (x := 37) (by omega)
  rw [st_159_5]
  simp (disch := omega) only [st_159_0, st_159_1, st_159_4, st_159_6, st_159_9, st_159_11, st_159_14, st_159_15, st_159_18, st_159_20, st_159_23, st_159_24, st_159_27, st_159_29, st_159_32, st_159_33, st_159_36, st_159_37, st_159_38, st_159_38r, st_159_39, st_159_42, st_159_43, st_159_44, st_159_47, st_159_48, st_159_51, st_159_52, st_159_53, st_159_55, st_159_58, st_159_59, st_159_60, st_159_61, st_159_64, st_159_65, st_159_68, st_159_69, st_159_72, st_159_73, st_159_75, st_159_78, st_159_79, st_159_80, st_159_81, st_159_84, st_159_85, st_159_86, st_159_87, st_159_88, st_159_91, st_159_92, ini_159, fs_cl, fs_len, fs_rf, fs_M, fs_put, fs_cpy, ↓reduceIte, rv_ref, true_or, or_true, true_and, and_true, nI_ltI, ix_nI, nI_clamp, ps_i, ps_n, Option.bind_some, sm_0, sm_1, sm_2, sm_3, sm_4, sto_0, sto_1, sto_2, sto_3, sto_4, sto_5, sto_6, sto_7, sto_8, sto_9, sto_10, sto_11, sto_12, sto_13, sto_14, nlo_n, nlo_i, nlo_r, nlo_0, nlo_l, and_self, or_self, Nat.reduceEqDiff, Nat.reduceLT, Nat.reduceLeDiff, Nat.one_ne_zero, Nat.zero_ne_one, m0, g, n42, n47, n37]
theorem r159f (hk : Md h o) (hu : u < 2) (h10 : M o 10 = nI u) {j : Nat} (h8 : M o 8 = nI j) (hj : j < 1000) {e : Nat} (he : 4 ≤ e) : j_C e 159 [.ref o] (FS h M) = some (some (.int (nI 0)), FS h M) := by
  obtain ⟨e, rfl⟩ : ∃ d, e = d + 1 := ⟨e - 1, by omega⟩
  have m0 := hk.1
  have g := r160f hk hu h10 h8 hj (e := e) (by omega)
  have gx := r159x hk h8 hj (e := e) (by omega) (nI 0) none none
  rw [j_C_eq]
  simp (disch := omega) only [st_159_0, st_159_1, st_159_4, st_159_6, st_159_9, st_159_11, st_159_14, st_159_15, st_159_18, st_159_20, st_159_23, st_159_24, st_159_27, st_159_29, st_159_32, st_159_33, st_159_36, st_159_37, st_159_38, st_159_38r, st_159_39, st_159_42, st_159_43, st_159_44, st_159_47, st_159_48, st_159_51, st_159_52, st_159_53, st_159_55, st_159_58, st_159_59, st_159_60, st_159_61, st_159_64, st_159_65, st_159_68, st_159_69, st_159_72, st_159_73, st_159_75, st_159_78, st_159_79, st_159_80, st_159_81, st_159_84, st_159_85, st_159_86, st_159_87, st_159_88, st_159_91, st_159_92, ini_159, fs_cl, fs_len, fs_rf, fs_M, fs_put, fs_cpy, ↓reduceIte, rv_ref, true_or, or_true, true_and, and_true, nI_ltI, ix_nI, nI_clamp, ps_i, ps_n, Option.bind_some, sm_0, sm_1, sm_2, sm_3, sm_4, sto_0, sto_1, sto_2, sto_3, sto_4, sto_5, sto_6, sto_7, sto_8, sto_9, sto_10, sto_11, sto_12, sto_13, sto_14, nlo_n, nlo_i, nlo_r, nlo_0, nlo_l, and_self, or_self, Nat.reduceEqDiff, Nat.reduceLT, Nat.reduceLeDiff, Nat.one_ne_zero, Nat.zero_ne_one, m0, g]
  exact gx
theorem r159s (hk : Md h o) (hf : Fy M o bs B n u a b c) {q : Nat} (hq : M o 6 = nI q) (h8 : M o 8 = -1) (hqn : q ≤ n) (hl : lvN (nx B n q) = 4) {e : Nat} (he : 1 ≤ e) {v w : Int32} {M1 : Nat → Nat → Int32} (ga : j_C e 160 [.ref o] (FS h (j_up M o 6 (nI (q + 1)))) = some (some (.int w), FS h M1)) (x2 x3 : Int32) : j_X e 159 5 [some (.ref o), some (.int v), some (.int x2), some (.int x3)] [] (FS h M) = j_X e 159 5 [some (.ref o), some (.int (jn (bI (nx B n q)) v w)), some (.int (bI (nx B n q))), some (.int w)] [] (FS h M1) ∧ j_X e 159 5 [some (.ref o), some (.int v), none, none] [] (FS h M) = j_X e 159 5 [some (.ref o), some (.int (jn (bI (nx B n q)) v w)), some (.int (bI (nx B n q))), some (.int w)] [] (FS h M1) := by
  have m0 := hk.1
  have g := r151 hk hf hq h8 hqn (e := e) he
  rw [lv_4] at hl
  rcases hl with c1 | c1 | c1
  · rw [c1, bI_lt (by omega)] at g ⊢
    rw [jn_42]
    refine ⟨?_, ?_⟩ <;> rw [st_159_5] <;>
    simp (disch := omega) only [st_159_0, st_159_1, st_159_4, st_159_6, st_159_9, st_159_11, st_159_14, st_159_15, st_159_18, st_159_20, st_159_23, st_159_24, st_159_27, st_159_29, st_159_32, st_159_33, st_159_36, st_159_37, st_159_38, st_159_38r, st_159_39, st_159_42, st_159_43, st_159_44, st_159_47, st_159_48, st_159_51, st_159_52, st_159_53, st_159_55, st_159_58, st_159_59, st_159_60, st_159_61, st_159_64, st_159_65, st_159_68, st_159_69, st_159_72, st_159_73, st_159_75, st_159_78, st_159_79, st_159_80, st_159_81, st_159_84, st_159_85, st_159_86, st_159_87, st_159_88, st_159_91, st_159_92, ini_159, fs_cl, fs_len, fs_rf, fs_M, fs_put, fs_cpy, ↓reduceIte, rv_ref, true_or, or_true, true_and, and_true, nI_ltI, ix_nI, nI_clamp, ps_i, ps_n, Option.bind_some, sm_0, sm_1, sm_2, sm_3, sm_4, sto_0, sto_1, sto_2, sto_3, sto_4, sto_5, sto_6, sto_7, sto_8, sto_9, sto_10, sto_11, sto_12, sto_13, sto_14, nlo_n, nlo_i, nlo_r, nlo_0, nlo_l, and_self, or_self, Nat.reduceEqDiff, Nat.reduceLT, Nat.reduceLeDiff, Nat.one_ne_zero, Nat.zero_ne_one, m0, g, hq, nI_add, ga, nI_eq]
  · rw [c1, bI_lt (by omega)] at g ⊢
    rw [jn_47]
    by_cases w0 : w = nI 0
    · rw [if_pos w0]
      refine ⟨?_, ?_⟩ <;> rw [st_159_5] <;>
      simp (disch := omega) only [st_159_0, st_159_1, st_159_4, st_159_6, st_159_9, st_159_11, st_159_14, st_159_15, st_159_18, st_159_20, st_159_23, st_159_24, st_159_27, st_159_29, st_159_32, st_159_33, st_159_36, st_159_37, st_159_38, st_159_38r, st_159_39, st_159_42, st_159_43, st_159_44, st_159_47, st_159_48, st_159_51, st_159_52, st_159_53, st_159_55, st_159_58, st_159_59, st_159_60, st_159_61, st_159_64, st_159_65, st_159_68, st_159_69, st_159_72, st_159_73, st_159_75, st_159_78, st_159_79, st_159_80, st_159_81, st_159_84, st_159_85, st_159_86, st_159_87, st_159_88, st_159_91, st_159_92, ini_159, fs_cl, fs_len, fs_rf, fs_M, fs_put, fs_cpy, ↓reduceIte, rv_ref, true_or, or_true, true_and, and_true, nI_ltI, ix_nI, nI_clamp, ps_i, ps_n, Option.bind_some, sm_0, sm_1, sm_2, sm_3, sm_4, sto_0, sto_1, sto_2, sto_3, sto_4, sto_5, sto_6, sto_7, sto_8, sto_9, sto_10, sto_11, sto_12, sto_13, sto_14, nlo_n, nlo_i, nlo_r, nlo_0, nlo_l, and_self, or_self, Nat.reduceEqDiff, Nat.reduceLT, Nat.reduceLeDiff, Nat.one_ne_zero, Nat.zero_ne_one, m0, g, hq, nI_add, ga, nI_eq, eq_true w0]
    · rw [if_neg w0]
      refine ⟨?_, ?_⟩ <;> rw [st_159_5] <;>
      simp (disch := omega) only [st_159_0, st_159_1, st_159_4, st_159_6, st_159_9, st_159_11, st_159_14, st_159_15, st_159_18, st_159_20, st_159_23, st_159_24, st_159_27, st_159_29, st_159_32, st_159_33, st_159_36, st_159_37, st_159_38, st_159_38r, st_159_39, st_159_42, st_159_43, st_159_44, st_159_47, st_159_48, st_159_51, st_159_52, st_159_53, st_159_55, st_159_58, st_159_59, st_159_60, st_159_61, st_159_64, st_159_65, st_159_68, st_159_69, st_159_72, st_159_73, st_159_75, st_159_78, st_159_79, st_159_80, st_159_81, st_159_84, st_159_85, st_159_86, st_159_87, st_159_88, st_159_91, st_159_92, ini_159, fs_cl, fs_len, fs_rf, fs_M, fs_put, fs_cpy, ↓reduceIte, rv_ref, true_or, or_true, true_and, and_true, nI_ltI, ix_nI, nI_clamp, ps_i, ps_n, Option.bind_some, sm_0, sm_1, sm_2, sm_3, sm_4, sto_0, sto_1, sto_2, sto_3, sto_4, sto_5, sto_6, sto_7, sto_8, sto_9, sto_10, sto_11, sto_12, sto_13, sto_14, nlo_n, nlo_i, nlo_r, nlo_0, nlo_l, and_self, or_self, Nat.reduceEqDiff, Nat.reduceLT, Nat.reduceLeDiff, Nat.one_ne_zero, Nat.zero_ne_one, m0, g, hq, nI_add, ga, nI_eq, w0]
  · rw [c1, bI_lt (by omega)] at g ⊢
    rw [jn_37]
    by_cases w0 : w = nI 0
    · rw [if_pos w0]
      refine ⟨?_, ?_⟩ <;> rw [st_159_5] <;>
      simp (disch := omega) only [st_159_0, st_159_1, st_159_4, st_159_6, st_159_9, st_159_11, st_159_14, st_159_15, st_159_18, st_159_20, st_159_23, st_159_24, st_159_27, st_159_29, st_159_32, st_159_33, st_159_36, st_159_37, st_159_38, st_159_38r, st_159_39, st_159_42, st_159_43, st_159_44, st_159_47, st_159_48, st_159_51, st_159_52, st_159_53, st_159_55, st_159_58, st_159_59, st_159_60, st_159_61, st_159_64, st_159_65, st_159_68, st_159_69, st_159_72, st_159_73, st_159_75, st_159_78, st_159_79, st_159_80, st_159_81, st_159_84, st_159_85, st_159_86, st_159_87, st_159_88, st_159_91, st_159_92, ini_159, fs_cl, fs_len, fs_rf, fs_M, fs_put, fs_cpy, ↓reduceIte, rv_ref, true_or, or_true, true_and, and_true, nI_ltI, ix_nI, nI_clamp, ps_i, ps_n, Option.bind_some, sm_0, sm_1, sm_2, sm_3, sm_4, sto_0, sto_1, sto_2, sto_3, sto_4, sto_5, sto_6, sto_7, sto_8, sto_9, sto_10, sto_11, sto_12, sto_13, sto_14, nlo_n, nlo_i, nlo_r, nlo_0, nlo_l, and_self, or_self, Nat.reduceEqDiff, Nat.reduceLT, Nat.reduceLeDiff, Nat.one_ne_zero, Nat.zero_ne_one, m0, g, hq, nI_add, ga, nI_eq, eq_true w0]
    · rw [if_neg w0]
      refine ⟨?_, ?_⟩ <;> rw [st_159_5] <;>
      simp (disch := omega) only [st_159_0, st_159_1, st_159_4, st_159_6, st_159_9, st_159_11, st_159_14, st_159_15, st_159_18, st_159_20, st_159_23, st_159_24, st_159_27, st_159_29, st_159_32, st_159_33, st_159_36, st_159_37, st_159_38, st_159_38r, st_159_39, st_159_42, st_159_43, st_159_44, st_159_47, st_159_48, st_159_51, st_159_52, st_159_53, st_159_55, st_159_58, st_159_59, st_159_60, st_159_61, st_159_64, st_159_65, st_159_68, st_159_69, st_159_72, st_159_73, st_159_75, st_159_78, st_159_79, st_159_80, st_159_81, st_159_84, st_159_85, st_159_86, st_159_87, st_159_88, st_159_91, st_159_92, ini_159, fs_cl, fs_len, fs_rf, fs_M, fs_put, fs_cpy, ↓reduceIte, rv_ref, true_or, or_true, true_and, and_true, nI_ltI, ix_nI, nI_clamp, ps_i, ps_n, Option.bind_some, sm_0, sm_1, sm_2, sm_3, sm_4, sto_0, sto_1, sto_2, sto_3, sto_4, sto_5, sto_6, sto_7, sto_8, sto_9, sto_10, sto_11, sto_12, sto_13, sto_14, nlo_n, nlo_i, nlo_r, nlo_0, nlo_l, and_self, or_self, Nat.reduceEqDiff, Nat.reduceLT, Nat.reduceLeDiff, Nat.one_ne_zero, Nat.zero_ne_one, m0, g, hq, nI_add, ga, nI_eq, w0]
theorem r158x (hk : Md h o) {j : Nat} (h8 : M o 8 = nI j) (hj : j < 1000) {e : Nat} (he : 1 ≤ e) (v : Int32) (o2 o3 : Option Value) : j_X e 158 5 [some (.ref o), some (.int v), o2, o3] [] (FS h M) = some (some (.int v), FS h M) := by
  have m0 := hk.1
  have g := r151f hk h8 hj (e := e) he
  have n43 := m1_ne (x := 43) (by omega)
  have n45 := m1_ne (x := 45) (by omega)
  rw [st_158_5]
  simp (disch := omega) only [st_158_0, st_158_1, st_158_4, st_158_6, st_158_9, st_158_11, st_158_14, st_158_15, st_158_18, st_158_20, st_158_23, st_158_24, st_158_27, st_158_28, st_158_29, st_158_29r, st_158_30, st_158_33, st_158_34, st_158_35, st_158_38, st_158_39, st_158_42, st_158_43, st_158_44, st_158_46, st_158_49, st_158_50, st_158_51, st_158_52, st_158_55, st_158_56, st_158_57, st_158_58, st_158_59, st_158_62, st_158_63, ini_158, fs_cl, fs_len, fs_rf, fs_M, fs_put, fs_cpy, ↓reduceIte, rv_ref, true_or, or_true, true_and, and_true, nI_ltI, ix_nI, nI_clamp, ps_i, ps_n, Option.bind_some, sm_0, sm_1, sm_2, sm_3, sm_4, sto_0, sto_1, sto_2, sto_3, sto_4, sto_5, sto_6, sto_7, sto_8, sto_9, sto_10, sto_11, sto_12, sto_13, sto_14, nlo_n, nlo_i, nlo_r, nlo_0, nlo_l, and_self, or_self, Nat.reduceEqDiff, Nat.reduceLT, Nat.reduceLeDiff, Nat.one_ne_zero, Nat.zero_ne_one, m0, g, n43, n45]
theorem r158f (hk : Md h o) (hu : u < 2) (h10 : M o 10 = nI u) {j : Nat} (h8 : M o 8 = nI j) (hj : j < 1000) {e : Nat} (he : 5 ≤ e) : j_C e 158 [.ref o] (FS h M) = some (some (.int (nI 0)), FS h M) := by
  obtain ⟨e, rfl⟩ : ∃ d, e = d + 1 := ⟨e - 1, by omega⟩
  have m0 := hk.1
  have g := r159f hk hu h10 h8 hj (e := e) (by omega)
  have gx := r158x hk h8 hj (e := e) (by omega) (nI 0) none none
  rw [j_C_eq]
  simp (disch := omega) only [st_158_0, st_158_1, st_158_4, st_158_6, st_158_9, st_158_11, st_158_14, st_158_15, st_158_18, st_158_20, st_158_23, st_158_24, st_158_27, st_158_28, st_158_29, st_158_29r, st_158_30, st_158_33, st_158_34, st_158_35, st_158_38, st_158_39, st_158_42, st_158_43, st_158_44, st_158_46, st_158_49, st_158_50, st_158_51, st_158_52, st_158_55, st_158_56, st_158_57, st_158_58, st_158_59, st_158_62, st_158_63, ini_158, fs_cl, fs_len, fs_rf, fs_M, fs_put, fs_cpy, ↓reduceIte, rv_ref, true_or, or_true, true_and, and_true, nI_ltI, ix_nI, nI_clamp, ps_i, ps_n, Option.bind_some, sm_0, sm_1, sm_2, sm_3, sm_4, sto_0, sto_1, sto_2, sto_3, sto_4, sto_5, sto_6, sto_7, sto_8, sto_9, sto_10, sto_11, sto_12, sto_13, sto_14, nlo_n, nlo_i, nlo_r, nlo_0, nlo_l, and_self, or_self, Nat.reduceEqDiff, Nat.reduceLT, Nat.reduceLeDiff, Nat.one_ne_zero, Nat.zero_ne_one, m0, g]
  exact gx
theorem r158s (hk : Md h o) (hf : Fy M o bs B n u a b c) {q : Nat} (hq : M o 6 = nI q) (h8 : M o 8 = -1) (hqn : q ≤ n) (hl : lvN (nx B n q) = 3) {e : Nat} (he : 1 ≤ e) {v w : Int32} {M1 : Nat → Nat → Int32} (ga : j_C e 159 [.ref o] (FS h (j_up M o 6 (nI (q + 1)))) = some (some (.int w), FS h M1)) (x2 x3 : Int32) : j_X e 158 5 [some (.ref o), some (.int v), some (.int x2), some (.int x3)] [] (FS h M) = j_X e 158 5 [some (.ref o), some (.int (jn (bI (nx B n q)) v w)), some (.int (bI (nx B n q))), some (.int w)] [] (FS h M1) ∧ j_X e 158 5 [some (.ref o), some (.int v), none, none] [] (FS h M) = j_X e 158 5 [some (.ref o), some (.int (jn (bI (nx B n q)) v w)), some (.int (bI (nx B n q))), some (.int w)] [] (FS h M1) := by
  have m0 := hk.1
  have g := r151 hk hf hq h8 hqn (e := e) he
  rw [lv_3] at hl
  rcases hl with c1 | c1
  · rw [c1, bI_lt (by omega)] at g ⊢
    rw [jn_43]
    refine ⟨?_, ?_⟩ <;> rw [st_158_5] <;>
    simp (disch := omega) only [st_158_0, st_158_1, st_158_4, st_158_6, st_158_9, st_158_11, st_158_14, st_158_15, st_158_18, st_158_20, st_158_23, st_158_24, st_158_27, st_158_28, st_158_29, st_158_29r, st_158_30, st_158_33, st_158_34, st_158_35, st_158_38, st_158_39, st_158_42, st_158_43, st_158_44, st_158_46, st_158_49, st_158_50, st_158_51, st_158_52, st_158_55, st_158_56, st_158_57, st_158_58, st_158_59, st_158_62, st_158_63, ini_158, fs_cl, fs_len, fs_rf, fs_M, fs_put, fs_cpy, ↓reduceIte, rv_ref, true_or, or_true, true_and, and_true, nI_ltI, ix_nI, nI_clamp, ps_i, ps_n, Option.bind_some, sm_0, sm_1, sm_2, sm_3, sm_4, sto_0, sto_1, sto_2, sto_3, sto_4, sto_5, sto_6, sto_7, sto_8, sto_9, sto_10, sto_11, sto_12, sto_13, sto_14, nlo_n, nlo_i, nlo_r, nlo_0, nlo_l, and_self, or_self, Nat.reduceEqDiff, Nat.reduceLT, Nat.reduceLeDiff, Nat.one_ne_zero, Nat.zero_ne_one, m0, g, hq, nI_add, ga, nI_eq]
  · rw [c1, bI_lt (by omega)] at g ⊢
    rw [jn_45]
    refine ⟨?_, ?_⟩ <;> rw [st_158_5] <;>
    simp (disch := omega) only [st_158_0, st_158_1, st_158_4, st_158_6, st_158_9, st_158_11, st_158_14, st_158_15, st_158_18, st_158_20, st_158_23, st_158_24, st_158_27, st_158_28, st_158_29, st_158_29r, st_158_30, st_158_33, st_158_34, st_158_35, st_158_38, st_158_39, st_158_42, st_158_43, st_158_44, st_158_46, st_158_49, st_158_50, st_158_51, st_158_52, st_158_55, st_158_56, st_158_57, st_158_58, st_158_59, st_158_62, st_158_63, ini_158, fs_cl, fs_len, fs_rf, fs_M, fs_put, fs_cpy, ↓reduceIte, rv_ref, true_or, or_true, true_and, and_true, nI_ltI, ix_nI, nI_clamp, ps_i, ps_n, Option.bind_some, sm_0, sm_1, sm_2, sm_3, sm_4, sto_0, sto_1, sto_2, sto_3, sto_4, sto_5, sto_6, sto_7, sto_8, sto_9, sto_10, sto_11, sto_12, sto_13, sto_14, nlo_n, nlo_i, nlo_r, nlo_0, nlo_l, and_self, or_self, Nat.reduceEqDiff, Nat.reduceLT, Nat.reduceLeDiff, Nat.one_ne_zero, Nat.zero_ne_one, m0, g, hq, nI_add, ga, nI_eq]
theorem v159 (hk : Md h o) {D k : Nat} {Q : Nat → tR} (hD : 3 ≤ D) (hG : Gd n Q) (hV : VOk h o bs B n u a b c D 160 k Q) : VOk h o bs B n u a b c (D + 1) 159 k (fun q => if (Q q).1 = true then lpR B n Q 4 50 (Q q).2.1 (Q q).2.2 else (false, (Q q).2.1, [])) := by
  intro e he q M hf hq h8 h9 hqn
  obtain ⟨e, rfl⟩ : ∃ d, e = d + 1 := ⟨e - 1, by omega⟩
  have m0 := hk.1
  have n50 := hf.2.1
  have ex : ∀ q v (M : Nat → Nat → Int32) (o2 o3 : Option Value), Fy M o bs B n u a b c → M o 6 = nI q → M o 8 = -1 → q ≤ n → ¬ lvN (nx B n q) = 4 → j_X e 159 5 [some (.ref o), some (.int v), o2, o3] [] (FS h M) = some (some (.int v), FS h M) := by
    intro q v M o2 o3 hf hq h8 hqn cc
    have g := r151 hk hf hq h8 hqn (e := e) (by omega)
    have n42 : ¬ nx B n q = 42 := fun e => cc (by rw [e]; rfl)
    have n47 : ¬ nx B n q = 47 := fun e => cc (by rw [e]; rfl)
    have n37 : ¬ nx B n q = 37 := fun e => cc (by rw [e]; rfl)
    rw [st_159_5]
    simp (disch := omega) only [st_159_0, st_159_1, st_159_4, st_159_6, st_159_9, st_159_11, st_159_14, st_159_15, st_159_18, st_159_20, st_159_23, st_159_24, st_159_27, st_159_29, st_159_32, st_159_33, st_159_36, st_159_37, st_159_38, st_159_38r, st_159_39, st_159_42, st_159_43, st_159_44, st_159_47, st_159_48, st_159_51, st_159_52, st_159_53, st_159_55, st_159_58, st_159_59, st_159_60, st_159_61, st_159_64, st_159_65, st_159_68, st_159_69, st_159_72, st_159_73, st_159_75, st_159_78, st_159_79, st_159_80, st_159_81, st_159_84, st_159_85, st_159_86, st_159_87, st_159_88, st_159_91, st_159_92, ini_159, fs_cl, fs_len, fs_rf, fs_M, fs_put, fs_cpy, ↓reduceIte, rv_ref, true_or, or_true, true_and, and_true, nI_ltI, ix_nI, nI_clamp, ps_i, ps_n, Option.bind_some, sm_0, sm_1, sm_2, sm_3, sm_4, sto_0, sto_1, sto_2, sto_3, sto_4, sto_5, sto_6, sto_7, sto_8, sto_9, sto_10, sto_11, sto_12, sto_13, sto_14, nlo_n, nlo_i, nlo_r, nlo_0, nlo_l, and_self, or_self, Nat.reduceEqDiff, Nat.reduceLT, Nat.reduceLeDiff, Nat.one_ne_zero, Nat.zero_ne_one, m0, g, bI_eq, n42, n47, n37]
  have Lp : ∀ r q acc v (M : Nat → Nat → Int32) (o2 o3 : Option Value), (o2 = none ∧ o3 = none) ∨ (∃ x2 x3 : Int32, o2 = some (.int x2) ∧ o3 = some (.int x3)) → n ≤ q + r → Fy M o bs B n u a b c → M o 6 = nI q → M o 8 = -1 → M o 9 = nI (5 - k) → q ≤ n → (∀ l, acc.foldl (stp a b c) l = v :: l) → ∃ v' M', j_X e 159 5 [some (.ref o), some (.int v), o2, o3] [] (FS h M) = some (some (.int v'), FS h M') ∧ Vo o M M' (lpR B n Q 4 r q acc) v' a b c := by
    intro r
    induction r with
    | zero =>
      intro q acc v M o2 o3 ho hnr hf hq h8 h9 hqn hv
      have xo := nx_out (B := B) (show n ≤ q by omega)
      exact ⟨v, M, ex q v M o2 o3 hf hq h8 hqn (by rw [xo]; decide), vf_r, fun _ => ⟨hv, hq, h8, rfl⟩, fun e => by cases e⟩
    | succ r ih =>
      intro q acc v M o2 o3 ho hnr hf hq h8 h9 hqn hv
      unfold lpR
      by_cases cc : lvN (nx B n q) = 4
      · rw [if_pos cc]
        have hin := nx_in (B := B) (n := n) (q := q) (lvx_lt (by omega))
        obtain ⟨w, M1, a1, a2, a3, a4⟩ := hV e (by omega) (q + 1) (j_up M o 6 (nI (q + 1))) (Fy_vf hf vf_6) (up_s _ _ _) (by rw [up_k _ _ _ _ (by omega)]; exact h8) (by rw [up_k _ _ _ _ (by omega)]; exact h9) (by omega)
        have hX : j_X e 159 5 [some (.ref o), some (.int v), o2, o3] [] (FS h M) = j_X e 159 5 [some (.ref o), some (.int (jn (bI (nx B n q)) v w)), some (.int (bI (nx B n q))), some (.int w)] [] (FS h M1) := by
          rcases ho with ⟨e2, e3⟩ | ⟨x2, x3, e2, e3⟩
          · subst_vars; exact (r159s hk hf hq h8 hqn cc (by omega) a1 0 0).2
          · subst_vars; exact (r159s hk hf hq h8 hqn cc (by omega) a1 x2 x3).1
        rw [hX]
        obtain ⟨g1, g2, g3⟩ := hG (q + 1) (by omega)
        by_cases c2 : (Q (q + 1)).1 = true
        · rw [if_pos c2]
          obtain ⟨b1, b2, b3, b4⟩ := a3 c2
          obtain ⟨g3, g4⟩ := g3 c2
          rw [up_k _ _ _ _ (by omega)] at b4
          obtain ⟨v', M', d1, d2, d3, d4⟩ := ih (Q (q + 1)).2.1 (acc ++ (Q (q + 1)).2.2 ++ [-(bI (nx B n q))]) (jn (bI (nx B n q)) v w) M1 (some (.int (bI (nx B n q)))) (some (.int w)) (.inr ⟨_, _, rfl, rfl⟩) (by omega) (Fy_vf (Fy_vf hf vf_6) a2) b2 b3 (by rw [b4]; exact h9) g2 (fold_op hv b1 (by omega))
          exact ⟨v', M', d1, vf_t (vf_t vf_6 a2) d2, fun e => ⟨(d3 e).1, (d3 e).2.1, (d3 e).2.2.1, by rw [(d3 e).2.2.2, b4]⟩, d4⟩
        · rw [if_neg c2]
          have f := a4 (Bool.eq_false_iff.mpr c2)
          exact ⟨_, M1, r159x hk f (by omega) (by omega) _ _ _, vf_t vf_6 a2, (fun e => by cases e), fun _ => f⟩
      · rw [if_neg cc]
        exact ⟨v, M, ex q v M o2 o3 hf hq h8 hqn cc, vf_r, fun _ => ⟨hv, hq, h8, rfl⟩, fun e => by cases e⟩
  obtain ⟨v, M1, a1, a2, a3, a4⟩ := hV e (by omega) q M hf hq h8 h9 hqn
  obtain ⟨g1, g2, g3⟩ := hG q hqn
  by_cases cc : (Q q).1 = true
  · simp only [if_pos cc]
    obtain ⟨b1, b2, b3, b4⟩ := a3 cc
    obtain ⟨v', M', d1, d2, d3, d4⟩ := Lp 50 (Q q).2.1 (Q q).2.2 v M1 none none (.inl ⟨rfl, rfl⟩) (by omega) (Fy_vf hf a2) b2 b3 (by rw [b4]; exact h9) g2 b1
    refine ⟨v', M', ?_, vf_t a2 d2, fun e => ⟨(d3 e).1, (d3 e).2.1, (d3 e).2.2.1, by rw [(d3 e).2.2.2, b4]⟩, d4⟩
    rw [j_C_eq]
    simp (disch := omega) only [st_159_0, st_159_1, st_159_4, st_159_6, st_159_9, st_159_11, st_159_14, st_159_15, st_159_18, st_159_20, st_159_23, st_159_24, st_159_27, st_159_29, st_159_32, st_159_33, st_159_36, st_159_37, st_159_38, st_159_38r, st_159_39, st_159_42, st_159_43, st_159_44, st_159_47, st_159_48, st_159_51, st_159_52, st_159_53, st_159_55, st_159_58, st_159_59, st_159_60, st_159_61, st_159_64, st_159_65, st_159_68, st_159_69, st_159_72, st_159_73, st_159_75, st_159_78, st_159_79, st_159_80, st_159_81, st_159_84, st_159_85, st_159_86, st_159_87, st_159_88, st_159_91, st_159_92, ini_159, fs_cl, fs_len, fs_rf, fs_M, fs_put, fs_cpy, ↓reduceIte, rv_ref, true_or, or_true, true_and, and_true, nI_ltI, ix_nI, nI_clamp, ps_i, ps_n, Option.bind_some, sm_0, sm_1, sm_2, sm_3, sm_4, sto_0, sto_1, sto_2, sto_3, sto_4, sto_5, sto_6, sto_7, sto_8, sto_9, sto_10, sto_11, sto_12, sto_13, sto_14, nlo_n, nlo_i, nlo_r, nlo_0, nlo_l, and_self, or_self, Nat.reduceEqDiff, Nat.reduceLT, Nat.reduceLeDiff, Nat.one_ne_zero, Nat.zero_ne_one, m0, a1]
    exact d1
  · simp only [if_neg cc]
    have f := a4 (Bool.eq_false_iff.mpr cc)
    refine ⟨v, M1, ?_, a2, (fun e => by cases e), fun _ => f⟩
    have gx := r159x hk f (by omega) (e := e) (by omega) v none none
    rw [j_C_eq]
    simp (disch := omega) only [st_159_0, st_159_1, st_159_4, st_159_6, st_159_9, st_159_11, st_159_14, st_159_15, st_159_18, st_159_20, st_159_23, st_159_24, st_159_27, st_159_29, st_159_32, st_159_33, st_159_36, st_159_37, st_159_38, st_159_38r, st_159_39, st_159_42, st_159_43, st_159_44, st_159_47, st_159_48, st_159_51, st_159_52, st_159_53, st_159_55, st_159_58, st_159_59, st_159_60, st_159_61, st_159_64, st_159_65, st_159_68, st_159_69, st_159_72, st_159_73, st_159_75, st_159_78, st_159_79, st_159_80, st_159_81, st_159_84, st_159_85, st_159_86, st_159_87, st_159_88, st_159_91, st_159_92, ini_159, fs_cl, fs_len, fs_rf, fs_M, fs_put, fs_cpy, ↓reduceIte, rv_ref, true_or, or_true, true_and, and_true, nI_ltI, ix_nI, nI_clamp, ps_i, ps_n, Option.bind_some, sm_0, sm_1, sm_2, sm_3, sm_4, sto_0, sto_1, sto_2, sto_3, sto_4, sto_5, sto_6, sto_7, sto_8, sto_9, sto_10, sto_11, sto_12, sto_13, sto_14, nlo_n, nlo_i, nlo_r, nlo_0, nlo_l, and_self, or_self, Nat.reduceEqDiff, Nat.reduceLT, Nat.reduceLeDiff, Nat.one_ne_zero, Nat.zero_ne_one, m0, a1]
    exact gx
theorem v158 (hk : Md h o) {D k : Nat} {Q : Nat → tR} (hD : 3 ≤ D) (hG : Gd n Q) (hV : VOk h o bs B n u a b c D 159 k Q) : VOk h o bs B n u a b c (D + 1) 158 k (fun q => if (Q q).1 = true then lpR B n Q 3 50 (Q q).2.1 (Q q).2.2 else (false, (Q q).2.1, [])) := by
  intro e he q M hf hq h8 h9 hqn
  obtain ⟨e, rfl⟩ : ∃ d, e = d + 1 := ⟨e - 1, by omega⟩
  have m0 := hk.1
  have n50 := hf.2.1
  have ex : ∀ q v (M : Nat → Nat → Int32) (o2 o3 : Option Value), Fy M o bs B n u a b c → M o 6 = nI q → M o 8 = -1 → q ≤ n → ¬ lvN (nx B n q) = 3 → j_X e 158 5 [some (.ref o), some (.int v), o2, o3] [] (FS h M) = some (some (.int v), FS h M) := by
    intro q v M o2 o3 hf hq h8 hqn cc
    have g := r151 hk hf hq h8 hqn (e := e) (by omega)
    have n43 : ¬ nx B n q = 43 := fun e => cc (by rw [e]; rfl)
    have n45 : ¬ nx B n q = 45 := fun e => cc (by rw [e]; rfl)
    rw [st_158_5]
    simp (disch := omega) only [st_158_0, st_158_1, st_158_4, st_158_6, st_158_9, st_158_11, st_158_14, st_158_15, st_158_18, st_158_20, st_158_23, st_158_24, st_158_27, st_158_28, st_158_29, st_158_29r, st_158_30, st_158_33, st_158_34, st_158_35, st_158_38, st_158_39, st_158_42, st_158_43, st_158_44, st_158_46, st_158_49, st_158_50, st_158_51, st_158_52, st_158_55, st_158_56, st_158_57, st_158_58, st_158_59, st_158_62, st_158_63, ini_158, fs_cl, fs_len, fs_rf, fs_M, fs_put, fs_cpy, ↓reduceIte, rv_ref, true_or, or_true, true_and, and_true, nI_ltI, ix_nI, nI_clamp, ps_i, ps_n, Option.bind_some, sm_0, sm_1, sm_2, sm_3, sm_4, sto_0, sto_1, sto_2, sto_3, sto_4, sto_5, sto_6, sto_7, sto_8, sto_9, sto_10, sto_11, sto_12, sto_13, sto_14, nlo_n, nlo_i, nlo_r, nlo_0, nlo_l, and_self, or_self, Nat.reduceEqDiff, Nat.reduceLT, Nat.reduceLeDiff, Nat.one_ne_zero, Nat.zero_ne_one, m0, g, bI_eq, n43, n45]
  have Lp : ∀ r q acc v (M : Nat → Nat → Int32) (o2 o3 : Option Value), (o2 = none ∧ o3 = none) ∨ (∃ x2 x3 : Int32, o2 = some (.int x2) ∧ o3 = some (.int x3)) → n ≤ q + r → Fy M o bs B n u a b c → M o 6 = nI q → M o 8 = -1 → M o 9 = nI (5 - k) → q ≤ n → (∀ l, acc.foldl (stp a b c) l = v :: l) → ∃ v' M', j_X e 158 5 [some (.ref o), some (.int v), o2, o3] [] (FS h M) = some (some (.int v'), FS h M') ∧ Vo o M M' (lpR B n Q 3 r q acc) v' a b c := by
    intro r
    induction r with
    | zero =>
      intro q acc v M o2 o3 ho hnr hf hq h8 h9 hqn hv
      have xo := nx_out (B := B) (show n ≤ q by omega)
      exact ⟨v, M, ex q v M o2 o3 hf hq h8 hqn (by rw [xo]; decide), vf_r, fun _ => ⟨hv, hq, h8, rfl⟩, fun e => by cases e⟩
    | succ r ih =>
      intro q acc v M o2 o3 ho hnr hf hq h8 h9 hqn hv
      unfold lpR
      by_cases cc : lvN (nx B n q) = 3
      · rw [if_pos cc]
        have hin := nx_in (B := B) (n := n) (q := q) (lvx_lt (by omega))
        obtain ⟨w, M1, a1, a2, a3, a4⟩ := hV e (by omega) (q + 1) (j_up M o 6 (nI (q + 1))) (Fy_vf hf vf_6) (up_s _ _ _) (by rw [up_k _ _ _ _ (by omega)]; exact h8) (by rw [up_k _ _ _ _ (by omega)]; exact h9) (by omega)
        have hX : j_X e 158 5 [some (.ref o), some (.int v), o2, o3] [] (FS h M) = j_X e 158 5 [some (.ref o), some (.int (jn (bI (nx B n q)) v w)), some (.int (bI (nx B n q))), some (.int w)] [] (FS h M1) := by
          rcases ho with ⟨e2, e3⟩ | ⟨x2, x3, e2, e3⟩
          · subst_vars; exact (r158s hk hf hq h8 hqn cc (by omega) a1 0 0).2
          · subst_vars; exact (r158s hk hf hq h8 hqn cc (by omega) a1 x2 x3).1
        rw [hX]
        obtain ⟨g1, g2, g3⟩ := hG (q + 1) (by omega)
        by_cases c2 : (Q (q + 1)).1 = true
        · rw [if_pos c2]
          obtain ⟨b1, b2, b3, b4⟩ := a3 c2
          obtain ⟨g3, g4⟩ := g3 c2
          rw [up_k _ _ _ _ (by omega)] at b4
          obtain ⟨v', M', d1, d2, d3, d4⟩ := ih (Q (q + 1)).2.1 (acc ++ (Q (q + 1)).2.2 ++ [-(bI (nx B n q))]) (jn (bI (nx B n q)) v w) M1 (some (.int (bI (nx B n q)))) (some (.int w)) (.inr ⟨_, _, rfl, rfl⟩) (by omega) (Fy_vf (Fy_vf hf vf_6) a2) b2 b3 (by rw [b4]; exact h9) g2 (fold_op hv b1 (by omega))
          exact ⟨v', M', d1, vf_t (vf_t vf_6 a2) d2, fun e => ⟨(d3 e).1, (d3 e).2.1, (d3 e).2.2.1, by rw [(d3 e).2.2.2, b4]⟩, d4⟩
        · rw [if_neg c2]
          have f := a4 (Bool.eq_false_iff.mpr c2)
          exact ⟨_, M1, r158x hk f (by omega) (by omega) _ _ _, vf_t vf_6 a2, (fun e => by cases e), fun _ => f⟩
      · rw [if_neg cc]
        exact ⟨v, M, ex q v M o2 o3 hf hq h8 hqn cc, vf_r, fun _ => ⟨hv, hq, h8, rfl⟩, fun e => by cases e⟩
  obtain ⟨v, M1, a1, a2, a3, a4⟩ := hV e (by omega) q M hf hq h8 h9 hqn
  obtain ⟨g1, g2, g3⟩ := hG q hqn
  by_cases cc : (Q q).1 = true
  · simp only [if_pos cc]
    obtain ⟨b1, b2, b3, b4⟩ := a3 cc
    obtain ⟨v', M', d1, d2, d3, d4⟩ := Lp 50 (Q q).2.1 (Q q).2.2 v M1 none none (.inl ⟨rfl, rfl⟩) (by omega) (Fy_vf hf a2) b2 b3 (by rw [b4]; exact h9) g2 b1
    refine ⟨v', M', ?_, vf_t a2 d2, fun e => ⟨(d3 e).1, (d3 e).2.1, (d3 e).2.2.1, by rw [(d3 e).2.2.2, b4]⟩, d4⟩
    rw [j_C_eq]
    simp (disch := omega) only [st_158_0, st_158_1, st_158_4, st_158_6, st_158_9, st_158_11, st_158_14, st_158_15, st_158_18, st_158_20, st_158_23, st_158_24, st_158_27, st_158_28, st_158_29, st_158_29r, st_158_30, st_158_33, st_158_34, st_158_35, st_158_38, st_158_39, st_158_42, st_158_43, st_158_44, st_158_46, st_158_49, st_158_50, st_158_51, st_158_52, st_158_55, st_158_56, st_158_57, st_158_58, st_158_59, st_158_62, st_158_63, ini_158, fs_cl, fs_len, fs_rf, fs_M, fs_put, fs_cpy, ↓reduceIte, rv_ref, true_or, or_true, true_and, and_true, nI_ltI, ix_nI, nI_clamp, ps_i, ps_n, Option.bind_some, sm_0, sm_1, sm_2, sm_3, sm_4, sto_0, sto_1, sto_2, sto_3, sto_4, sto_5, sto_6, sto_7, sto_8, sto_9, sto_10, sto_11, sto_12, sto_13, sto_14, nlo_n, nlo_i, nlo_r, nlo_0, nlo_l, and_self, or_self, Nat.reduceEqDiff, Nat.reduceLT, Nat.reduceLeDiff, Nat.one_ne_zero, Nat.zero_ne_one, m0, a1]
    exact d1
  · simp only [if_neg cc]
    have f := a4 (Bool.eq_false_iff.mpr cc)
    refine ⟨v, M1, ?_, a2, (fun e => by cases e), fun _ => f⟩
    have gx := r158x hk f (by omega) (e := e) (by omega) v none none
    rw [j_C_eq]
    simp (disch := omega) only [st_158_0, st_158_1, st_158_4, st_158_6, st_158_9, st_158_11, st_158_14, st_158_15, st_158_18, st_158_20, st_158_23, st_158_24, st_158_27, st_158_28, st_158_29, st_158_29r, st_158_30, st_158_33, st_158_34, st_158_35, st_158_38, st_158_39, st_158_42, st_158_43, st_158_44, st_158_46, st_158_49, st_158_50, st_158_51, st_158_52, st_158_55, st_158_56, st_158_57, st_158_58, st_158_59, st_158_62, st_158_63, ini_158, fs_cl, fs_len, fs_rf, fs_M, fs_put, fs_cpy, ↓reduceIte, rv_ref, true_or, or_true, true_and, and_true, nI_ltI, ix_nI, nI_clamp, ps_i, ps_n, Option.bind_some, sm_0, sm_1, sm_2, sm_3, sm_4, sto_0, sto_1, sto_2, sto_3, sto_4, sto_5, sto_6, sto_7, sto_8, sto_9, sto_10, sto_11, sto_12, sto_13, sto_14, nlo_n, nlo_i, nlo_r, nlo_0, nlo_l, and_self, or_self, Nat.reduceEqDiff, Nat.reduceLT, Nat.reduceLeDiff, Nat.one_ne_zero, Nat.zero_ne_one, m0, a1]
    exact gx
theorem r157x (hk : Md h o) {j : Nat} (h8 : M o 8 = nI j) (hj : j < 1000) {e : Nat} (he : 1 ≤ e) (v : Int32) (o2 o3 : Option Value) : j_X e 157 5 [some (.ref o), some (.int v), o2, o3] [] (FS h M) = some (some (.int v), FS h M) := by
  have m0 := hk.1
  have g := r151f hk h8 hj (e := e) he
  have n60 := m1_ne (x := 60) (by omega)
  have n61 := m1_ne (x := 61) (by omega)
  have n62 := m1_ne (x := 62) (by omega)
  simp (disch := omega) only [st_157_5, st_157_6, st_157_9, st_157_10, st_157_11, st_157_13, st_157_16, st_157_17, st_157_19, st_157_22, st_157_23, st_157_25, st_157_28, st_157_29, ini_157, fs_cl, fs_len, fs_rf, fs_M, fs_put, fs_cpy, ↓reduceIte, rv_ref, true_or, or_true, true_and, and_true, nI_ltI, ix_nI, nI_clamp, ps_i, ps_n, Option.bind_some, sm_0, sm_1, sm_2, sm_3, sm_4, sto_0, sto_1, sto_2, sto_3, sto_4, sto_5, sto_6, sto_7, sto_8, sto_9, sto_10, sto_11, sto_12, sto_13, sto_14, nlo_n, nlo_i, nlo_r, nlo_0, nlo_l, and_self, or_self, Nat.reduceEqDiff, Nat.reduceLT, Nat.reduceLeDiff, Nat.one_ne_zero, Nat.zero_ne_one, m0, g, n60, n61, n62]
theorem r157f (hk : Md h o) (hu : u < 2) (h10 : M o 10 = nI u) {j : Nat} (h8 : M o 8 = nI j) (hj : j < 1000) {e : Nat} (he : 6 ≤ e) : j_C e 157 [.ref o] (FS h M) = some (some (.int (nI 0)), FS h M) := by
  obtain ⟨e, rfl⟩ : ∃ d, e = d + 1 := ⟨e - 1, by omega⟩
  have m0 := hk.1
  have g := r158f hk hu h10 h8 hj (e := e) (by omega)
  have gx := r157x hk h8 hj (e := e) (by omega) (nI 0) none none
  rw [j_C_eq]
  simp (disch := omega) only [st_157_0, st_157_1, st_157_4, ini_157, fs_cl, fs_len, fs_rf, fs_M, fs_put, fs_cpy, ↓reduceIte, rv_ref, true_or, or_true, true_and, and_true, nI_ltI, ix_nI, nI_clamp, ps_i, ps_n, Option.bind_some, sm_0, sm_1, sm_2, sm_3, sm_4, sto_0, sto_1, sto_2, sto_3, sto_4, sto_5, sto_6, sto_7, sto_8, sto_9, sto_10, sto_11, sto_12, sto_13, sto_14, nlo_n, nlo_i, nlo_r, nlo_0, nlo_l, and_self, or_self, Nat.reduceEqDiff, Nat.reduceLT, Nat.reduceLeDiff, Nat.one_ne_zero, Nat.zero_ne_one, m0, g]
  exact gx
theorem v157 (hk : Md h o) {D k : Nat} {Q : Nat → tR} (hD : 3 ≤ D) (hG : Gd n Q) (hV : VOk h o bs B n u a b c D 158 k Q) : VOk h o bs B n u a b c (D + 1) 157 k (fun q => if (Q q).1 = true then lpR B n Q 2 1 (Q q).2.1 (Q q).2.2 else (false, (Q q).2.1, [])) := by
  intro e he q M hf hq h8 h9 hqn
  obtain ⟨e, rfl⟩ : ∃ d, e = d + 1 := ⟨e - 1, by omega⟩
  have m0 := hk.1
  have n50 := hf.2.1
  obtain ⟨v, M1, a1, a2, a3, a4⟩ := hV e (by omega) q M hf hq h8 h9 hqn
  obtain ⟨g1, g2, g3⟩ := hG q hqn
  have st : ∀ R, j_X e 157 5 [some (.ref o), some (.int v), none, none] [] (FS h M1) = R → j_C (e + 1) 157 [.ref o] (FS h M) = R := by
    intro R hR
    rw [j_C_eq]
    simp (disch := omega) only [st_157_0, st_157_1, st_157_4, ini_157, fs_cl, fs_len, fs_rf, fs_M, fs_put, fs_cpy, ↓reduceIte, rv_ref, true_or, or_true, true_and, and_true, nI_ltI, ix_nI, nI_clamp, ps_i, ps_n, Option.bind_some, sm_0, sm_1, sm_2, sm_3, sm_4, sto_0, sto_1, sto_2, sto_3, sto_4, sto_5, sto_6, sto_7, sto_8, sto_9, sto_10, sto_11, sto_12, sto_13, sto_14, nlo_n, nlo_i, nlo_r, nlo_0, nlo_l, and_self, or_self, Nat.reduceEqDiff, Nat.reduceLT, Nat.reduceLeDiff, Nat.one_ne_zero, Nat.zero_ne_one, m0, a1]
    exact hR
  by_cases cc : (Q q).1 = true
  · simp only [if_pos cc]
    obtain ⟨b1, b2, b3, b4⟩ := a3 cc
    have hf1 := Fy_vf hf a2
    have g := r151 hk hf1 b2 b3 g2 (e := e) (by omega)
    unfold lpR
    by_cases c1 : lvN (nx B n (Q q).2.1) = 2
    · rw [if_pos c1]
      have hin := nx_in (B := B) (n := n) (q := (Q q).2.1) (lvx_lt (by omega))
      obtain ⟨w, M2, d1, d2, d3, d4⟩ := hV e (by omega) ((Q q).2.1 + 1) (j_up M1 o 6 (nI ((Q q).2.1 + 1))) (Fy_vf hf1 vf_6) (up_s _ _ _) (by rw [up_k _ _ _ _ (by omega)]; exact b3) (by rw [up_k _ _ _ _ (by omega), b4]; exact h9) (by omega)
      have hX : j_X e 157 5 [some (.ref o), some (.int v), none, none] [] (FS h M1) = some (some (.int (jn (bI (nx B n (Q q).2.1)) v w)), FS h M2) := by
        rcases lv_2.mp c1 with c2 | c2 | c2
        · rw [c2, bI_lt (by omega)] at g ⊢
          rw [jn_60]
          by_cases w0 : v < w
          · rw [if_pos w0]
            simp (disch := omega) only [st_157_5, st_157_6, st_157_9, st_157_10, st_157_11, st_157_13, st_157_16, st_157_17, st_157_19, st_157_22, st_157_23, st_157_25, st_157_28, st_157_29, st_157_30, st_157_31, st_157_31r, st_157_32, st_157_35, st_157_36, st_157_37, st_157_40, st_157_41, st_157_44, st_157_45, st_157_46, st_157_48, st_157_51, st_157_52, st_157_53, st_157_56, st_157_59, st_157_60, st_157_62, st_157_65, st_157_66, st_157_67, st_157_70, st_157_73, st_157_74, st_157_75, st_157_78, st_157_79, st_157_82, st_157_83, ini_157, fs_cl, fs_len, fs_rf, fs_M, fs_put, fs_cpy, ↓reduceIte, rv_ref, true_or, or_true, true_and, and_true, nI_ltI, ix_nI, nI_clamp, ps_i, ps_n, Option.bind_some, sm_0, sm_1, sm_2, sm_3, sm_4, sto_0, sto_1, sto_2, sto_3, sto_4, sto_5, sto_6, sto_7, sto_8, sto_9, sto_10, sto_11, sto_12, sto_13, sto_14, nlo_n, nlo_i, nlo_r, nlo_0, nlo_l, and_self, or_self, Nat.reduceEqDiff, Nat.reduceLT, Nat.reduceLeDiff, Nat.one_ne_zero, Nat.zero_ne_one, m0, g, b2, nI_add, d1, nI_eq, w0]
          · rw [if_neg w0]
            simp (disch := omega) only [st_157_5, st_157_6, st_157_9, st_157_10, st_157_11, st_157_13, st_157_16, st_157_17, st_157_19, st_157_22, st_157_23, st_157_25, st_157_28, st_157_29, st_157_30, st_157_31, st_157_31r, st_157_32, st_157_35, st_157_36, st_157_37, st_157_40, st_157_41, st_157_44, st_157_45, st_157_46, st_157_48, st_157_51, st_157_52, st_157_53, st_157_56, st_157_59, st_157_60, st_157_62, st_157_65, st_157_66, st_157_67, st_157_70, st_157_73, st_157_74, st_157_75, st_157_78, st_157_79, st_157_82, st_157_83, ini_157, fs_cl, fs_len, fs_rf, fs_M, fs_put, fs_cpy, ↓reduceIte, rv_ref, true_or, or_true, true_and, and_true, nI_ltI, ix_nI, nI_clamp, ps_i, ps_n, Option.bind_some, sm_0, sm_1, sm_2, sm_3, sm_4, sto_0, sto_1, sto_2, sto_3, sto_4, sto_5, sto_6, sto_7, sto_8, sto_9, sto_10, sto_11, sto_12, sto_13, sto_14, nlo_n, nlo_i, nlo_r, nlo_0, nlo_l, and_self, or_self, Nat.reduceEqDiff, Nat.reduceLT, Nat.reduceLeDiff, Nat.one_ne_zero, Nat.zero_ne_one, m0, g, b2, nI_add, d1, nI_eq, w0]
        · rw [c2, bI_lt (by omega)] at g ⊢
          rw [jn_61]
          by_cases w0 : v = w
          · rw [if_pos w0]
            simp (disch := omega) only [st_157_5, st_157_6, st_157_9, st_157_10, st_157_11, st_157_13, st_157_16, st_157_17, st_157_19, st_157_22, st_157_23, st_157_25, st_157_28, st_157_29, st_157_30, st_157_31, st_157_31r, st_157_32, st_157_35, st_157_36, st_157_37, st_157_40, st_157_41, st_157_44, st_157_45, st_157_46, st_157_48, st_157_51, st_157_52, st_157_53, st_157_56, st_157_59, st_157_60, st_157_62, st_157_65, st_157_66, st_157_67, st_157_70, st_157_73, st_157_74, st_157_75, st_157_78, st_157_79, st_157_82, st_157_83, ini_157, fs_cl, fs_len, fs_rf, fs_M, fs_put, fs_cpy, ↓reduceIte, rv_ref, true_or, or_true, true_and, and_true, nI_ltI, ix_nI, nI_clamp, ps_i, ps_n, Option.bind_some, sm_0, sm_1, sm_2, sm_3, sm_4, sto_0, sto_1, sto_2, sto_3, sto_4, sto_5, sto_6, sto_7, sto_8, sto_9, sto_10, sto_11, sto_12, sto_13, sto_14, nlo_n, nlo_i, nlo_r, nlo_0, nlo_l, and_self, or_self, Nat.reduceEqDiff, Nat.reduceLT, Nat.reduceLeDiff, Nat.one_ne_zero, Nat.zero_ne_one, m0, g, b2, nI_add, d1, nI_eq, eq_true w0]
          · rw [if_neg w0]
            simp (disch := omega) only [st_157_5, st_157_6, st_157_9, st_157_10, st_157_11, st_157_13, st_157_16, st_157_17, st_157_19, st_157_22, st_157_23, st_157_25, st_157_28, st_157_29, st_157_30, st_157_31, st_157_31r, st_157_32, st_157_35, st_157_36, st_157_37, st_157_40, st_157_41, st_157_44, st_157_45, st_157_46, st_157_48, st_157_51, st_157_52, st_157_53, st_157_56, st_157_59, st_157_60, st_157_62, st_157_65, st_157_66, st_157_67, st_157_70, st_157_73, st_157_74, st_157_75, st_157_78, st_157_79, st_157_82, st_157_83, ini_157, fs_cl, fs_len, fs_rf, fs_M, fs_put, fs_cpy, ↓reduceIte, rv_ref, true_or, or_true, true_and, and_true, nI_ltI, ix_nI, nI_clamp, ps_i, ps_n, Option.bind_some, sm_0, sm_1, sm_2, sm_3, sm_4, sto_0, sto_1, sto_2, sto_3, sto_4, sto_5, sto_6, sto_7, sto_8, sto_9, sto_10, sto_11, sto_12, sto_13, sto_14, nlo_n, nlo_i, nlo_r, nlo_0, nlo_l, and_self, or_self, Nat.reduceEqDiff, Nat.reduceLT, Nat.reduceLeDiff, Nat.one_ne_zero, Nat.zero_ne_one, m0, g, b2, nI_add, d1, nI_eq, w0]
        · rw [c2, bI_lt (by omega)] at g ⊢
          rw [jn_62]
          by_cases w0 : w < v
          · rw [if_pos w0]
            simp (disch := omega) only [st_157_5, st_157_6, st_157_9, st_157_10, st_157_11, st_157_13, st_157_16, st_157_17, st_157_19, st_157_22, st_157_23, st_157_25, st_157_28, st_157_29, st_157_30, st_157_31, st_157_31r, st_157_32, st_157_35, st_157_36, st_157_37, st_157_40, st_157_41, st_157_44, st_157_45, st_157_46, st_157_48, st_157_51, st_157_52, st_157_53, st_157_56, st_157_59, st_157_60, st_157_62, st_157_65, st_157_66, st_157_67, st_157_70, st_157_73, st_157_74, st_157_75, st_157_78, st_157_79, st_157_82, st_157_83, ini_157, fs_cl, fs_len, fs_rf, fs_M, fs_put, fs_cpy, ↓reduceIte, rv_ref, true_or, or_true, true_and, and_true, nI_ltI, ix_nI, nI_clamp, ps_i, ps_n, Option.bind_some, sm_0, sm_1, sm_2, sm_3, sm_4, sto_0, sto_1, sto_2, sto_3, sto_4, sto_5, sto_6, sto_7, sto_8, sto_9, sto_10, sto_11, sto_12, sto_13, sto_14, nlo_n, nlo_i, nlo_r, nlo_0, nlo_l, and_self, or_self, Nat.reduceEqDiff, Nat.reduceLT, Nat.reduceLeDiff, Nat.one_ne_zero, Nat.zero_ne_one, m0, g, b2, nI_add, d1, nI_eq, w0]
          · rw [if_neg w0]
            simp (disch := omega) only [st_157_5, st_157_6, st_157_9, st_157_10, st_157_11, st_157_13, st_157_16, st_157_17, st_157_19, st_157_22, st_157_23, st_157_25, st_157_28, st_157_29, st_157_30, st_157_31, st_157_31r, st_157_32, st_157_35, st_157_36, st_157_37, st_157_40, st_157_41, st_157_44, st_157_45, st_157_46, st_157_48, st_157_51, st_157_52, st_157_53, st_157_56, st_157_59, st_157_60, st_157_62, st_157_65, st_157_66, st_157_67, st_157_70, st_157_73, st_157_74, st_157_75, st_157_78, st_157_79, st_157_82, st_157_83, ini_157, fs_cl, fs_len, fs_rf, fs_M, fs_put, fs_cpy, ↓reduceIte, rv_ref, true_or, or_true, true_and, and_true, nI_ltI, ix_nI, nI_clamp, ps_i, ps_n, Option.bind_some, sm_0, sm_1, sm_2, sm_3, sm_4, sto_0, sto_1, sto_2, sto_3, sto_4, sto_5, sto_6, sto_7, sto_8, sto_9, sto_10, sto_11, sto_12, sto_13, sto_14, nlo_n, nlo_i, nlo_r, nlo_0, nlo_l, and_self, or_self, Nat.reduceEqDiff, Nat.reduceLT, Nat.reduceLeDiff, Nat.one_ne_zero, Nat.zero_ne_one, m0, g, b2, nI_add, d1, nI_eq, w0]
      obtain ⟨g4, g5, g6⟩ := hG ((Q q).2.1 + 1) (by omega)
      by_cases c2 : (Q ((Q q).2.1 + 1)).1 = true
      · rw [if_pos c2]
        obtain ⟨f1, f2, f3, f4⟩ := d3 c2
        rw [up_k _ _ _ _ (by omega)] at f4
        exact ⟨_, M2, st _ hX, vf_t a2 (vf_t vf_6 d2), fun _ => ⟨fold_op b1 f1 (by omega), f2, f3, by rw [f4, b4]⟩, fun e => by cases e⟩
      · rw [if_neg c2]
        have f := d4 (Bool.eq_false_iff.mpr c2)
        exact ⟨_, M2, st _ hX, vf_t a2 (vf_t vf_6 d2), (fun e => by cases e), fun _ => f⟩
    · rw [if_neg c1]
      have n60 : ¬ nx B n (Q q).2.1 = 60 := fun e => c1 (by rw [e]; rfl)
      have n61 : ¬ nx B n (Q q).2.1 = 61 := fun e => c1 (by rw [e]; rfl)
      have n62 : ¬ nx B n (Q q).2.1 = 62 := fun e => c1 (by rw [e]; rfl)
      refine ⟨v, M1, st _ ?_, a2, fun _ => ⟨b1, b2, b3, b4⟩, fun e => by cases e⟩
      simp (disch := omega) only [st_157_5, st_157_6, st_157_9, st_157_10, st_157_11, st_157_13, st_157_16, st_157_17, st_157_19, st_157_22, st_157_23, st_157_25, st_157_28, st_157_29, ini_157, fs_cl, fs_len, fs_rf, fs_M, fs_put, fs_cpy, ↓reduceIte, rv_ref, true_or, or_true, true_and, and_true, nI_ltI, ix_nI, nI_clamp, ps_i, ps_n, Option.bind_some, sm_0, sm_1, sm_2, sm_3, sm_4, sto_0, sto_1, sto_2, sto_3, sto_4, sto_5, sto_6, sto_7, sto_8, sto_9, sto_10, sto_11, sto_12, sto_13, sto_14, nlo_n, nlo_i, nlo_r, nlo_0, nlo_l, and_self, or_self, Nat.reduceEqDiff, Nat.reduceLT, Nat.reduceLeDiff, Nat.one_ne_zero, Nat.zero_ne_one, m0, g, bI_eq, n60, n61, n62]
  · simp only [if_neg cc]
    have f := a4 (Bool.eq_false_iff.mpr cc)
    exact ⟨v, M1, st _ (r157x hk f (by omega) (by omega) v none none), a2, (fun e => by cases e), fun _ => f⟩
theorem r156x (hk : Md h o) {j : Nat} (h8 : M o 8 = nI j) (hj : j < 1000) {e : Nat} (he : 2 ≤ e) (v : Int32) (o2 : Option Value) : j_X e 156 5 [some (.ref o), some (.int v), o2] [] (FS h M) = some (some (.int v), FS h M) := by
  have m0 := hk.1
  have g := r153f hk h8 hj (x := 38) (by omega) (e := e) he
  rw [st_156_5]
  simp (disch := omega) only [st_156_0, st_156_1, st_156_4, st_156_6, st_156_8, st_156_11, st_156_14, st_156_15, st_156_18, st_156_19, st_156_20, st_156_23, st_156_24, st_156_27, st_156_28, st_156_31, st_156_32, st_156_33, st_156_36, st_156_37, ini_156, fs_cl, fs_len, fs_rf, fs_M, fs_put, fs_cpy, ↓reduceIte, rv_ref, true_or, or_true, true_and, and_true, nI_ltI, ix_nI, nI_clamp, ps_i, ps_n, Option.bind_some, sm_0, sm_1, sm_2, sm_3, sm_4, sto_0, sto_1, sto_2, sto_3, sto_4, sto_5, sto_6, sto_7, sto_8, sto_9, sto_10, sto_11, sto_12, sto_13, sto_14, nlo_n, nlo_i, nlo_r, nlo_0, nlo_l, and_self, or_self, Nat.reduceEqDiff, Nat.reduceLT, Nat.reduceLeDiff, Nat.one_ne_zero, Nat.zero_ne_one, m0, g]
theorem r156f (hk : Md h o) (hu : u < 2) (h10 : M o 10 = nI u) {j : Nat} (h8 : M o 8 = nI j) (hj : j < 1000) {e : Nat} (he : 7 ≤ e) : j_C e 156 [.ref o] (FS h M) = some (some (.int (nI 0)), FS h M) := by
  obtain ⟨e, rfl⟩ : ∃ d, e = d + 1 := ⟨e - 1, by omega⟩
  have m0 := hk.1
  have g := r157f hk hu h10 h8 hj (e := e) (by omega)
  have gx := r156x hk h8 hj (e := e) (by omega) (nI 0) none
  rw [j_C_eq]
  simp (disch := omega) only [st_156_0, st_156_1, st_156_4, st_156_6, st_156_8, st_156_11, st_156_14, st_156_15, st_156_18, st_156_19, st_156_20, st_156_23, st_156_24, st_156_27, st_156_28, st_156_31, st_156_32, st_156_33, st_156_36, st_156_37, ini_156, fs_cl, fs_len, fs_rf, fs_M, fs_put, fs_cpy, ↓reduceIte, rv_ref, true_or, or_true, true_and, and_true, nI_ltI, ix_nI, nI_clamp, ps_i, ps_n, Option.bind_some, sm_0, sm_1, sm_2, sm_3, sm_4, sto_0, sto_1, sto_2, sto_3, sto_4, sto_5, sto_6, sto_7, sto_8, sto_9, sto_10, sto_11, sto_12, sto_13, sto_14, nlo_n, nlo_i, nlo_r, nlo_0, nlo_l, and_self, or_self, Nat.reduceEqDiff, Nat.reduceLT, Nat.reduceLeDiff, Nat.one_ne_zero, Nat.zero_ne_one, m0, g]
  exact gx
theorem r156s (hk : Md h o) (hf : Fy M o bs B n u a b c) {q : Nat} (hq : M o 6 = nI q) (h8 : M o 8 = -1) (hqn : q ≤ n) (hl : lvN (nx B n q) = 1) {e : Nat} (he : 2 ≤ e) {v w : Int32} {M1 : Nat → Nat → Int32} (ga : j_C e 157 [.ref o] (FS h (j_up M o 6 (nI (q + 1)))) = some (some (.int w), FS h M1)) (x2 : Int32) : j_X e 156 5 [some (.ref o), some (.int v), some (.int x2)] [] (FS h M) = j_X e 156 5 [some (.ref o), some (.int (jn (bI (nx B n q)) v w)), some (.int w)] [] (FS h M1) ∧ j_X e 156 5 [some (.ref o), some (.int v), none] [] (FS h M) = j_X e 156 5 [some (.ref o), some (.int (jn (bI (nx B n q)) v w)), some (.int w)] [] (FS h M1) := by
  have m0 := hk.1
  have e10 : ¬ nI 1 = nI 0 := by decide +kernel
  rw [lv_1] at hl
  have g := r153y hk hf hq h8 hqn (by omega) hl (e := e) he
  rw [hl, bI_lt (by omega), jn_38]
  by_cases v0 : v = nI 0
  · rw [if_pos v0]
    by_cases w0 : w = nI 0
    · refine ⟨?_, ?_⟩ <;> rw [st_156_5] <;>
      simp (disch := omega) only [st_156_0, st_156_1, st_156_4, st_156_6, st_156_8, st_156_11, st_156_14, st_156_15, st_156_18, st_156_19, st_156_20, st_156_23, st_156_24, st_156_27, st_156_28, st_156_31, st_156_32, st_156_33, st_156_36, st_156_37, ini_156, fs_cl, fs_len, fs_rf, fs_M, fs_put, fs_cpy, ↓reduceIte, rv_ref, true_or, or_true, true_and, and_true, nI_ltI, ix_nI, nI_clamp, ps_i, ps_n, Option.bind_some, sm_0, sm_1, sm_2, sm_3, sm_4, sto_0, sto_1, sto_2, sto_3, sto_4, sto_5, sto_6, sto_7, sto_8, sto_9, sto_10, sto_11, sto_12, sto_13, sto_14, nlo_n, nlo_i, nlo_r, nlo_0, nlo_l, and_self, or_self, Nat.reduceEqDiff, Nat.reduceLT, Nat.reduceLeDiff, Nat.one_ne_zero, Nat.zero_ne_one, m0, g, e10, ga, eq_true v0, eq_true w0]
    · refine ⟨?_, ?_⟩ <;> rw [st_156_5] <;>
      simp (disch := omega) only [st_156_0, st_156_1, st_156_4, st_156_6, st_156_8, st_156_11, st_156_14, st_156_15, st_156_18, st_156_19, st_156_20, st_156_23, st_156_24, st_156_27, st_156_28, st_156_31, st_156_32, st_156_33, st_156_36, st_156_37, ini_156, fs_cl, fs_len, fs_rf, fs_M, fs_put, fs_cpy, ↓reduceIte, rv_ref, true_or, or_true, true_and, and_true, nI_ltI, ix_nI, nI_clamp, ps_i, ps_n, Option.bind_some, sm_0, sm_1, sm_2, sm_3, sm_4, sto_0, sto_1, sto_2, sto_3, sto_4, sto_5, sto_6, sto_7, sto_8, sto_9, sto_10, sto_11, sto_12, sto_13, sto_14, nlo_n, nlo_i, nlo_r, nlo_0, nlo_l, and_self, or_self, Nat.reduceEqDiff, Nat.reduceLT, Nat.reduceLeDiff, Nat.one_ne_zero, Nat.zero_ne_one, m0, g, e10, ga, eq_true v0, w0]
  · rw [if_neg v0]
    by_cases w0 : w = nI 0
    · rw [if_pos w0]; refine ⟨?_, ?_⟩ <;> rw [st_156_5] <;>
      simp (disch := omega) only [st_156_0, st_156_1, st_156_4, st_156_6, st_156_8, st_156_11, st_156_14, st_156_15, st_156_18, st_156_19, st_156_20, st_156_23, st_156_24, st_156_27, st_156_28, st_156_31, st_156_32, st_156_33, st_156_36, st_156_37, ini_156, fs_cl, fs_len, fs_rf, fs_M, fs_put, fs_cpy, ↓reduceIte, rv_ref, true_or, or_true, true_and, and_true, nI_ltI, ix_nI, nI_clamp, ps_i, ps_n, Option.bind_some, sm_0, sm_1, sm_2, sm_3, sm_4, sto_0, sto_1, sto_2, sto_3, sto_4, sto_5, sto_6, sto_7, sto_8, sto_9, sto_10, sto_11, sto_12, sto_13, sto_14, nlo_n, nlo_i, nlo_r, nlo_0, nlo_l, and_self, or_self, Nat.reduceEqDiff, Nat.reduceLT, Nat.reduceLeDiff, Nat.one_ne_zero, Nat.zero_ne_one, m0, g, e10, ga, v0, eq_true w0]
    · rw [if_neg w0]; refine ⟨?_, ?_⟩ <;> rw [st_156_5] <;>
      simp (disch := omega) only [st_156_0, st_156_1, st_156_4, st_156_6, st_156_8, st_156_11, st_156_14, st_156_15, st_156_18, st_156_19, st_156_20, st_156_23, st_156_24, st_156_27, st_156_28, st_156_31, st_156_32, st_156_33, st_156_36, st_156_37, ini_156, fs_cl, fs_len, fs_rf, fs_M, fs_put, fs_cpy, ↓reduceIte, rv_ref, true_or, or_true, true_and, and_true, nI_ltI, ix_nI, nI_clamp, ps_i, ps_n, Option.bind_some, sm_0, sm_1, sm_2, sm_3, sm_4, sto_0, sto_1, sto_2, sto_3, sto_4, sto_5, sto_6, sto_7, sto_8, sto_9, sto_10, sto_11, sto_12, sto_13, sto_14, nlo_n, nlo_i, nlo_r, nlo_0, nlo_l, and_self, or_self, Nat.reduceEqDiff, Nat.reduceLT, Nat.reduceLeDiff, Nat.one_ne_zero, Nat.zero_ne_one, m0, g, e10, ga, v0, w0]
theorem r155x (hk : Md h o) {j : Nat} (h8 : M o 8 = nI j) (hj : j < 1000) {e : Nat} (he : 2 ≤ e) (v : Int32) (o2 : Option Value) : j_X e 155 5 [some (.ref o), some (.int v), o2] [] (FS h M) = some (some (.int v), FS h M) := by
  have m0 := hk.1
  have g := r153f hk h8 hj (x := 124) (by omega) (e := e) he
  rw [st_155_5]
  simp (disch := omega) only [st_155_0, st_155_1, st_155_4, st_155_6, st_155_8, st_155_11, st_155_14, st_155_15, st_155_18, st_155_19, st_155_20, st_155_23, st_155_24, st_155_27, st_155_28, st_155_31, st_155_32, st_155_33, st_155_36, st_155_37, ini_155, fs_cl, fs_len, fs_rf, fs_M, fs_put, fs_cpy, ↓reduceIte, rv_ref, true_or, or_true, true_and, and_true, nI_ltI, ix_nI, nI_clamp, ps_i, ps_n, Option.bind_some, sm_0, sm_1, sm_2, sm_3, sm_4, sto_0, sto_1, sto_2, sto_3, sto_4, sto_5, sto_6, sto_7, sto_8, sto_9, sto_10, sto_11, sto_12, sto_13, sto_14, nlo_n, nlo_i, nlo_r, nlo_0, nlo_l, and_self, or_self, Nat.reduceEqDiff, Nat.reduceLT, Nat.reduceLeDiff, Nat.one_ne_zero, Nat.zero_ne_one, m0, g]
theorem r155f (hk : Md h o) (hu : u < 2) (h10 : M o 10 = nI u) {j : Nat} (h8 : M o 8 = nI j) (hj : j < 1000) {e : Nat} (he : 8 ≤ e) : j_C e 155 [.ref o] (FS h M) = some (some (.int (nI 0)), FS h M) := by
  obtain ⟨e, rfl⟩ : ∃ d, e = d + 1 := ⟨e - 1, by omega⟩
  have m0 := hk.1
  have g := r156f hk hu h10 h8 hj (e := e) (by omega)
  have gx := r155x hk h8 hj (e := e) (by omega) (nI 0) none
  rw [j_C_eq]
  simp (disch := omega) only [st_155_0, st_155_1, st_155_4, st_155_6, st_155_8, st_155_11, st_155_14, st_155_15, st_155_18, st_155_19, st_155_20, st_155_23, st_155_24, st_155_27, st_155_28, st_155_31, st_155_32, st_155_33, st_155_36, st_155_37, ini_155, fs_cl, fs_len, fs_rf, fs_M, fs_put, fs_cpy, ↓reduceIte, rv_ref, true_or, or_true, true_and, and_true, nI_ltI, ix_nI, nI_clamp, ps_i, ps_n, Option.bind_some, sm_0, sm_1, sm_2, sm_3, sm_4, sto_0, sto_1, sto_2, sto_3, sto_4, sto_5, sto_6, sto_7, sto_8, sto_9, sto_10, sto_11, sto_12, sto_13, sto_14, nlo_n, nlo_i, nlo_r, nlo_0, nlo_l, and_self, or_self, Nat.reduceEqDiff, Nat.reduceLT, Nat.reduceLeDiff, Nat.one_ne_zero, Nat.zero_ne_one, m0, g]
  exact gx
theorem r155s (hk : Md h o) (hf : Fy M o bs B n u a b c) {q : Nat} (hq : M o 6 = nI q) (h8 : M o 8 = -1) (hqn : q ≤ n) (hl : lvN (nx B n q) = 0) {e : Nat} (he : 2 ≤ e) {v w : Int32} {M1 : Nat → Nat → Int32} (ga : j_C e 156 [.ref o] (FS h (j_up M o 6 (nI (q + 1)))) = some (some (.int w), FS h M1)) (x2 : Int32) : j_X e 155 5 [some (.ref o), some (.int v), some (.int x2)] [] (FS h M) = j_X e 155 5 [some (.ref o), some (.int (jn (bI (nx B n q)) v w)), some (.int w)] [] (FS h M1) ∧ j_X e 155 5 [some (.ref o), some (.int v), none] [] (FS h M) = j_X e 155 5 [some (.ref o), some (.int (jn (bI (nx B n q)) v w)), some (.int w)] [] (FS h M1) := by
  have m0 := hk.1
  have e10 : ¬ nI 1 = nI 0 := by decide +kernel
  rw [lv_0] at hl
  have g := r153y hk hf hq h8 hqn (by omega) hl (e := e) he
  rw [hl, bI_lt (by omega), jn_124]
  by_cases v0 : v = nI 0
  · rw [if_pos v0]
    by_cases w0 : w = nI 0
    · rw [if_pos w0]; refine ⟨?_, ?_⟩ <;> rw [st_155_5] <;>
      simp (disch := omega) only [st_155_0, st_155_1, st_155_4, st_155_6, st_155_8, st_155_11, st_155_14, st_155_15, st_155_18, st_155_19, st_155_20, st_155_23, st_155_24, st_155_27, st_155_28, st_155_31, st_155_32, st_155_33, st_155_36, st_155_37, ini_155, fs_cl, fs_len, fs_rf, fs_M, fs_put, fs_cpy, ↓reduceIte, rv_ref, true_or, or_true, true_and, and_true, nI_ltI, ix_nI, nI_clamp, ps_i, ps_n, Option.bind_some, sm_0, sm_1, sm_2, sm_3, sm_4, sto_0, sto_1, sto_2, sto_3, sto_4, sto_5, sto_6, sto_7, sto_8, sto_9, sto_10, sto_11, sto_12, sto_13, sto_14, nlo_n, nlo_i, nlo_r, nlo_0, nlo_l, and_self, or_self, Nat.reduceEqDiff, Nat.reduceLT, Nat.reduceLeDiff, Nat.one_ne_zero, Nat.zero_ne_one, m0, g, e10, ga, eq_true v0, eq_true w0]
    · rw [if_neg w0]; refine ⟨?_, ?_⟩ <;> rw [st_155_5] <;>
      simp (disch := omega) only [st_155_0, st_155_1, st_155_4, st_155_6, st_155_8, st_155_11, st_155_14, st_155_15, st_155_18, st_155_19, st_155_20, st_155_23, st_155_24, st_155_27, st_155_28, st_155_31, st_155_32, st_155_33, st_155_36, st_155_37, ini_155, fs_cl, fs_len, fs_rf, fs_M, fs_put, fs_cpy, ↓reduceIte, rv_ref, true_or, or_true, true_and, and_true, nI_ltI, ix_nI, nI_clamp, ps_i, ps_n, Option.bind_some, sm_0, sm_1, sm_2, sm_3, sm_4, sto_0, sto_1, sto_2, sto_3, sto_4, sto_5, sto_6, sto_7, sto_8, sto_9, sto_10, sto_11, sto_12, sto_13, sto_14, nlo_n, nlo_i, nlo_r, nlo_0, nlo_l, and_self, or_self, Nat.reduceEqDiff, Nat.reduceLT, Nat.reduceLeDiff, Nat.one_ne_zero, Nat.zero_ne_one, m0, g, e10, ga, eq_true v0, w0]
  · rw [if_neg v0]
    by_cases w0 : w = nI 0
    · refine ⟨?_, ?_⟩ <;> rw [st_155_5] <;>
      simp (disch := omega) only [st_155_0, st_155_1, st_155_4, st_155_6, st_155_8, st_155_11, st_155_14, st_155_15, st_155_18, st_155_19, st_155_20, st_155_23, st_155_24, st_155_27, st_155_28, st_155_31, st_155_32, st_155_33, st_155_36, st_155_37, ini_155, fs_cl, fs_len, fs_rf, fs_M, fs_put, fs_cpy, ↓reduceIte, rv_ref, true_or, or_true, true_and, and_true, nI_ltI, ix_nI, nI_clamp, ps_i, ps_n, Option.bind_some, sm_0, sm_1, sm_2, sm_3, sm_4, sto_0, sto_1, sto_2, sto_3, sto_4, sto_5, sto_6, sto_7, sto_8, sto_9, sto_10, sto_11, sto_12, sto_13, sto_14, nlo_n, nlo_i, nlo_r, nlo_0, nlo_l, and_self, or_self, Nat.reduceEqDiff, Nat.reduceLT, Nat.reduceLeDiff, Nat.one_ne_zero, Nat.zero_ne_one, m0, g, e10, ga, v0, eq_true w0]
    · refine ⟨?_, ?_⟩ <;> rw [st_155_5] <;>
      simp (disch := omega) only [st_155_0, st_155_1, st_155_4, st_155_6, st_155_8, st_155_11, st_155_14, st_155_15, st_155_18, st_155_19, st_155_20, st_155_23, st_155_24, st_155_27, st_155_28, st_155_31, st_155_32, st_155_33, st_155_36, st_155_37, ini_155, fs_cl, fs_len, fs_rf, fs_M, fs_put, fs_cpy, ↓reduceIte, rv_ref, true_or, or_true, true_and, and_true, nI_ltI, ix_nI, nI_clamp, ps_i, ps_n, Option.bind_some, sm_0, sm_1, sm_2, sm_3, sm_4, sto_0, sto_1, sto_2, sto_3, sto_4, sto_5, sto_6, sto_7, sto_8, sto_9, sto_10, sto_11, sto_12, sto_13, sto_14, nlo_n, nlo_i, nlo_r, nlo_0, nlo_l, and_self, or_self, Nat.reduceEqDiff, Nat.reduceLT, Nat.reduceLeDiff, Nat.one_ne_zero, Nat.zero_ne_one, m0, g, e10, ga, v0, w0]
theorem v156 (hk : Md h o) {D k : Nat} {Q : Nat → tR} (hD : 3 ≤ D) (hG : Gd n Q) (hV : VOk h o bs B n u a b c D 157 k Q) : VOk h o bs B n u a b c (D + 1) 156 k (fun q => if (Q q).1 = true then lpR B n Q 1 50 (Q q).2.1 (Q q).2.2 else (false, (Q q).2.1, [])) := by
  intro e he q M hf hq h8 h9 hqn
  obtain ⟨e, rfl⟩ : ∃ d, e = d + 1 := ⟨e - 1, by omega⟩
  have m0 := hk.1
  have n50 := hf.2.1
  have ex : ∀ q v (M : Nat → Nat → Int32) (o2 : Option Value), Fy M o bs B n u a b c → M o 6 = nI q → M o 8 = -1 → q ≤ n → ¬ lvN (nx B n q) = 1 → j_X e 156 5 [some (.ref o), some (.int v), o2] [] (FS h M) = some (some (.int v), FS h M) := by
    intro q v M o2 hf hq h8 hqn cc
    have n0 : ¬ nx B n q = 38 := fun e => cc (by rw [e]; rfl)
    have g := r153n hk hf hq h8 hqn (by omega : 38 < 256) n0 (e := e) (by omega)
    rw [st_156_5]
    simp (disch := omega) only [st_156_0, st_156_1, st_156_4, st_156_6, st_156_8, st_156_11, st_156_14, st_156_15, st_156_18, st_156_19, st_156_20, st_156_23, st_156_24, st_156_27, st_156_28, st_156_31, st_156_32, st_156_33, st_156_36, st_156_37, ini_156, fs_cl, fs_len, fs_rf, fs_M, fs_put, fs_cpy, ↓reduceIte, rv_ref, true_or, or_true, true_and, and_true, nI_ltI, ix_nI, nI_clamp, ps_i, ps_n, Option.bind_some, sm_0, sm_1, sm_2, sm_3, sm_4, sto_0, sto_1, sto_2, sto_3, sto_4, sto_5, sto_6, sto_7, sto_8, sto_9, sto_10, sto_11, sto_12, sto_13, sto_14, nlo_n, nlo_i, nlo_r, nlo_0, nlo_l, and_self, or_self, Nat.reduceEqDiff, Nat.reduceLT, Nat.reduceLeDiff, Nat.one_ne_zero, Nat.zero_ne_one, m0, g]
  have Lp : ∀ r q acc v (M : Nat → Nat → Int32) (o2 : Option Value), (o2 = none) ∨ (∃ x2 : Int32, o2 = some (.int x2)) → n ≤ q + r → Fy M o bs B n u a b c → M o 6 = nI q → M o 8 = -1 → M o 9 = nI (5 - k) → q ≤ n → (∀ l, acc.foldl (stp a b c) l = v :: l) → ∃ v' M', j_X e 156 5 [some (.ref o), some (.int v), o2] [] (FS h M) = some (some (.int v'), FS h M') ∧ Vo o M M' (lpR B n Q 1 r q acc) v' a b c := by
    intro r
    induction r with
    | zero =>
      intro q acc v M o2 ho hnr hf hq h8 h9 hqn hv
      have xo := nx_out (B := B) (show n ≤ q by omega)
      exact ⟨v, M, ex q v M o2 hf hq h8 hqn (by rw [xo]; decide), vf_r, fun _ => ⟨hv, hq, h8, rfl⟩, fun e => by cases e⟩
    | succ r ih =>
      intro q acc v M o2 ho hnr hf hq h8 h9 hqn hv
      unfold lpR
      by_cases cc : lvN (nx B n q) = 1
      · rw [if_pos cc]
        have hin := nx_in (B := B) (n := n) (q := q) (lvx_lt (by omega))
        obtain ⟨w, M1, a1, a2, a3, a4⟩ := hV e (by omega) (q + 1) (j_up M o 6 (nI (q + 1))) (Fy_vf hf vf_6) (up_s _ _ _) (by rw [up_k _ _ _ _ (by omega)]; exact h8) (by rw [up_k _ _ _ _ (by omega)]; exact h9) (by omega)
        have hX : j_X e 156 5 [some (.ref o), some (.int v), o2] [] (FS h M) = j_X e 156 5 [some (.ref o), some (.int (jn (bI (nx B n q)) v w)), some (.int w)] [] (FS h M1) := by
          rcases ho with e2 | ⟨x2, e2⟩
          · subst_vars; exact (r156s hk hf hq h8 hqn cc (by omega) a1 0).2
          · subst_vars; exact (r156s hk hf hq h8 hqn cc (by omega) a1 x2).1
        rw [hX]
        obtain ⟨g1, g2, g3⟩ := hG (q + 1) (by omega)
        by_cases c2 : (Q (q + 1)).1 = true
        · rw [if_pos c2]
          obtain ⟨b1, b2, b3, b4⟩ := a3 c2
          obtain ⟨g3, g4⟩ := g3 c2
          rw [up_k _ _ _ _ (by omega)] at b4
          obtain ⟨v', M', d1, d2, d3, d4⟩ := ih (Q (q + 1)).2.1 (acc ++ (Q (q + 1)).2.2 ++ [-(bI (nx B n q))]) (jn (bI (nx B n q)) v w) M1 (some (.int w)) (.inr ⟨_, rfl⟩) (by omega) (Fy_vf (Fy_vf hf vf_6) a2) b2 b3 (by rw [b4]; exact h9) g2 (fold_op hv b1 (by omega))
          exact ⟨v', M', d1, vf_t (vf_t vf_6 a2) d2, fun e => ⟨(d3 e).1, (d3 e).2.1, (d3 e).2.2.1, by rw [(d3 e).2.2.2, b4]⟩, d4⟩
        · rw [if_neg c2]
          have f := a4 (Bool.eq_false_iff.mpr c2)
          exact ⟨_, M1, r156x hk f (by omega) (by omega) _ _, vf_t vf_6 a2, (fun e => by cases e), fun _ => f⟩
      · rw [if_neg cc]
        exact ⟨v, M, ex q v M o2 hf hq h8 hqn cc, vf_r, fun _ => ⟨hv, hq, h8, rfl⟩, fun e => by cases e⟩
  obtain ⟨v, M1, a1, a2, a3, a4⟩ := hV e (by omega) q M hf hq h8 h9 hqn
  obtain ⟨g1, g2, g3⟩ := hG q hqn
  by_cases cc : (Q q).1 = true
  · simp only [if_pos cc]
    obtain ⟨b1, b2, b3, b4⟩ := a3 cc
    obtain ⟨v', M', d1, d2, d3, d4⟩ := Lp 50 (Q q).2.1 (Q q).2.2 v M1 none (.inl rfl) (by omega) (Fy_vf hf a2) b2 b3 (by rw [b4]; exact h9) g2 b1
    refine ⟨v', M', ?_, vf_t a2 d2, fun e => ⟨(d3 e).1, (d3 e).2.1, (d3 e).2.2.1, by rw [(d3 e).2.2.2, b4]⟩, d4⟩
    rw [j_C_eq]
    simp (disch := omega) only [st_156_0, st_156_1, st_156_4, st_156_6, st_156_8, st_156_11, st_156_14, st_156_15, st_156_18, st_156_19, st_156_20, st_156_23, st_156_24, st_156_27, st_156_28, st_156_31, st_156_32, st_156_33, st_156_36, st_156_37, ini_156, fs_cl, fs_len, fs_rf, fs_M, fs_put, fs_cpy, ↓reduceIte, rv_ref, true_or, or_true, true_and, and_true, nI_ltI, ix_nI, nI_clamp, ps_i, ps_n, Option.bind_some, sm_0, sm_1, sm_2, sm_3, sm_4, sto_0, sto_1, sto_2, sto_3, sto_4, sto_5, sto_6, sto_7, sto_8, sto_9, sto_10, sto_11, sto_12, sto_13, sto_14, nlo_n, nlo_i, nlo_r, nlo_0, nlo_l, and_self, or_self, Nat.reduceEqDiff, Nat.reduceLT, Nat.reduceLeDiff, Nat.one_ne_zero, Nat.zero_ne_one, m0, a1]
    exact d1
  · simp only [if_neg cc]
    have f := a4 (Bool.eq_false_iff.mpr cc)
    refine ⟨v, M1, ?_, a2, (fun e => by cases e), fun _ => f⟩
    have gx := r156x hk f (by omega) (e := e) (by omega) v none
    rw [j_C_eq]
    simp (disch := omega) only [st_156_0, st_156_1, st_156_4, st_156_6, st_156_8, st_156_11, st_156_14, st_156_15, st_156_18, st_156_19, st_156_20, st_156_23, st_156_24, st_156_27, st_156_28, st_156_31, st_156_32, st_156_33, st_156_36, st_156_37, ini_156, fs_cl, fs_len, fs_rf, fs_M, fs_put, fs_cpy, ↓reduceIte, rv_ref, true_or, or_true, true_and, and_true, nI_ltI, ix_nI, nI_clamp, ps_i, ps_n, Option.bind_some, sm_0, sm_1, sm_2, sm_3, sm_4, sto_0, sto_1, sto_2, sto_3, sto_4, sto_5, sto_6, sto_7, sto_8, sto_9, sto_10, sto_11, sto_12, sto_13, sto_14, nlo_n, nlo_i, nlo_r, nlo_0, nlo_l, and_self, or_self, Nat.reduceEqDiff, Nat.reduceLT, Nat.reduceLeDiff, Nat.one_ne_zero, Nat.zero_ne_one, m0, a1]
    exact gx
theorem v155 (hk : Md h o) {D k : Nat} {Q : Nat → tR} (hD : 3 ≤ D) (hG : Gd n Q) (hV : VOk h o bs B n u a b c D 156 k Q) : VOk h o bs B n u a b c (D + 1) 155 k (fun q => if (Q q).1 = true then lpR B n Q 0 50 (Q q).2.1 (Q q).2.2 else (false, (Q q).2.1, [])) := by
  intro e he q M hf hq h8 h9 hqn
  obtain ⟨e, rfl⟩ : ∃ d, e = d + 1 := ⟨e - 1, by omega⟩
  have m0 := hk.1
  have n50 := hf.2.1
  have ex : ∀ q v (M : Nat → Nat → Int32) (o2 : Option Value), Fy M o bs B n u a b c → M o 6 = nI q → M o 8 = -1 → q ≤ n → ¬ lvN (nx B n q) = 0 → j_X e 155 5 [some (.ref o), some (.int v), o2] [] (FS h M) = some (some (.int v), FS h M) := by
    intro q v M o2 hf hq h8 hqn cc
    have n0 : ¬ nx B n q = 124 := fun e => cc (by rw [e]; rfl)
    have g := r153n hk hf hq h8 hqn (by omega : 124 < 256) n0 (e := e) (by omega)
    rw [st_155_5]
    simp (disch := omega) only [st_155_0, st_155_1, st_155_4, st_155_6, st_155_8, st_155_11, st_155_14, st_155_15, st_155_18, st_155_19, st_155_20, st_155_23, st_155_24, st_155_27, st_155_28, st_155_31, st_155_32, st_155_33, st_155_36, st_155_37, ini_155, fs_cl, fs_len, fs_rf, fs_M, fs_put, fs_cpy, ↓reduceIte, rv_ref, true_or, or_true, true_and, and_true, nI_ltI, ix_nI, nI_clamp, ps_i, ps_n, Option.bind_some, sm_0, sm_1, sm_2, sm_3, sm_4, sto_0, sto_1, sto_2, sto_3, sto_4, sto_5, sto_6, sto_7, sto_8, sto_9, sto_10, sto_11, sto_12, sto_13, sto_14, nlo_n, nlo_i, nlo_r, nlo_0, nlo_l, and_self, or_self, Nat.reduceEqDiff, Nat.reduceLT, Nat.reduceLeDiff, Nat.one_ne_zero, Nat.zero_ne_one, m0, g]
  have Lp : ∀ r q acc v (M : Nat → Nat → Int32) (o2 : Option Value), (o2 = none) ∨ (∃ x2 : Int32, o2 = some (.int x2)) → n ≤ q + r → Fy M o bs B n u a b c → M o 6 = nI q → M o 8 = -1 → M o 9 = nI (5 - k) → q ≤ n → (∀ l, acc.foldl (stp a b c) l = v :: l) → ∃ v' M', j_X e 155 5 [some (.ref o), some (.int v), o2] [] (FS h M) = some (some (.int v'), FS h M') ∧ Vo o M M' (lpR B n Q 0 r q acc) v' a b c := by
    intro r
    induction r with
    | zero =>
      intro q acc v M o2 ho hnr hf hq h8 h9 hqn hv
      have xo := nx_out (B := B) (show n ≤ q by omega)
      exact ⟨v, M, ex q v M o2 hf hq h8 hqn (by rw [xo]; decide), vf_r, fun _ => ⟨hv, hq, h8, rfl⟩, fun e => by cases e⟩
    | succ r ih =>
      intro q acc v M o2 ho hnr hf hq h8 h9 hqn hv
      unfold lpR
      by_cases cc : lvN (nx B n q) = 0
      · rw [if_pos cc]
        have hin := nx_in (B := B) (n := n) (q := q) (lvx_lt (by omega))
        obtain ⟨w, M1, a1, a2, a3, a4⟩ := hV e (by omega) (q + 1) (j_up M o 6 (nI (q + 1))) (Fy_vf hf vf_6) (up_s _ _ _) (by rw [up_k _ _ _ _ (by omega)]; exact h8) (by rw [up_k _ _ _ _ (by omega)]; exact h9) (by omega)
        have hX : j_X e 155 5 [some (.ref o), some (.int v), o2] [] (FS h M) = j_X e 155 5 [some (.ref o), some (.int (jn (bI (nx B n q)) v w)), some (.int w)] [] (FS h M1) := by
          rcases ho with e2 | ⟨x2, e2⟩
          · subst_vars; exact (r155s hk hf hq h8 hqn cc (by omega) a1 0).2
          · subst_vars; exact (r155s hk hf hq h8 hqn cc (by omega) a1 x2).1
        rw [hX]
        obtain ⟨g1, g2, g3⟩ := hG (q + 1) (by omega)
        by_cases c2 : (Q (q + 1)).1 = true
        · rw [if_pos c2]
          obtain ⟨b1, b2, b3, b4⟩ := a3 c2
          obtain ⟨g3, g4⟩ := g3 c2
          rw [up_k _ _ _ _ (by omega)] at b4
          obtain ⟨v', M', d1, d2, d3, d4⟩ := ih (Q (q + 1)).2.1 (acc ++ (Q (q + 1)).2.2 ++ [-(bI (nx B n q))]) (jn (bI (nx B n q)) v w) M1 (some (.int w)) (.inr ⟨_, rfl⟩) (by omega) (Fy_vf (Fy_vf hf vf_6) a2) b2 b3 (by rw [b4]; exact h9) g2 (fold_op hv b1 (by omega))
          exact ⟨v', M', d1, vf_t (vf_t vf_6 a2) d2, fun e => ⟨(d3 e).1, (d3 e).2.1, (d3 e).2.2.1, by rw [(d3 e).2.2.2, b4]⟩, d4⟩
        · rw [if_neg c2]
          have f := a4 (Bool.eq_false_iff.mpr c2)
          exact ⟨_, M1, r155x hk f (by omega) (by omega) _ _, vf_t vf_6 a2, (fun e => by cases e), fun _ => f⟩
      · rw [if_neg cc]
        exact ⟨v, M, ex q v M o2 hf hq h8 hqn cc, vf_r, fun _ => ⟨hv, hq, h8, rfl⟩, fun e => by cases e⟩
  obtain ⟨v, M1, a1, a2, a3, a4⟩ := hV e (by omega) q M hf hq h8 h9 hqn
  obtain ⟨g1, g2, g3⟩ := hG q hqn
  by_cases cc : (Q q).1 = true
  · simp only [if_pos cc]
    obtain ⟨b1, b2, b3, b4⟩ := a3 cc
    obtain ⟨v', M', d1, d2, d3, d4⟩ := Lp 50 (Q q).2.1 (Q q).2.2 v M1 none (.inl rfl) (by omega) (Fy_vf hf a2) b2 b3 (by rw [b4]; exact h9) g2 b1
    refine ⟨v', M', ?_, vf_t a2 d2, fun e => ⟨(d3 e).1, (d3 e).2.1, (d3 e).2.2.1, by rw [(d3 e).2.2.2, b4]⟩, d4⟩
    rw [j_C_eq]
    simp (disch := omega) only [st_155_0, st_155_1, st_155_4, st_155_6, st_155_8, st_155_11, st_155_14, st_155_15, st_155_18, st_155_19, st_155_20, st_155_23, st_155_24, st_155_27, st_155_28, st_155_31, st_155_32, st_155_33, st_155_36, st_155_37, ini_155, fs_cl, fs_len, fs_rf, fs_M, fs_put, fs_cpy, ↓reduceIte, rv_ref, true_or, or_true, true_and, and_true, nI_ltI, ix_nI, nI_clamp, ps_i, ps_n, Option.bind_some, sm_0, sm_1, sm_2, sm_3, sm_4, sto_0, sto_1, sto_2, sto_3, sto_4, sto_5, sto_6, sto_7, sto_8, sto_9, sto_10, sto_11, sto_12, sto_13, sto_14, nlo_n, nlo_i, nlo_r, nlo_0, nlo_l, and_self, or_self, Nat.reduceEqDiff, Nat.reduceLT, Nat.reduceLeDiff, Nat.one_ne_zero, Nat.zero_ne_one, m0, a1]
    exact d1
  · simp only [if_neg cc]
    have f := a4 (Bool.eq_false_iff.mpr cc)
    refine ⟨v, M1, ?_, a2, (fun e => by cases e), fun _ => f⟩
    have gx := r155x hk f (by omega) (e := e) (by omega) v none
    rw [j_C_eq]
    simp (disch := omega) only [st_155_0, st_155_1, st_155_4, st_155_6, st_155_8, st_155_11, st_155_14, st_155_15, st_155_18, st_155_19, st_155_20, st_155_23, st_155_24, st_155_27, st_155_28, st_155_31, st_155_32, st_155_33, st_155_36, st_155_37, ini_155, fs_cl, fs_len, fs_rf, fs_M, fs_put, fs_cpy, ↓reduceIte, rv_ref, true_or, or_true, true_and, and_true, nI_ltI, ix_nI, nI_clamp, ps_i, ps_n, Option.bind_some, sm_0, sm_1, sm_2, sm_3, sm_4, sto_0, sto_1, sto_2, sto_3, sto_4, sto_5, sto_6, sto_7, sto_8, sto_9, sto_10, sto_11, sto_12, sto_13, sto_14, nlo_n, nlo_i, nlo_r, nlo_0, nlo_l, and_self, or_self, Nat.reduceEqDiff, Nat.reduceLT, Nat.reduceLeDiff, Nat.one_ne_zero, Nat.zero_ne_one, m0, a1]
    exact gx

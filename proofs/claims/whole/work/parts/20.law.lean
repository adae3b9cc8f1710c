/-! The class's Law: what a code works out. -/
variable {h : j_Hd} {M : Nat → Nat → Int32} {σ : j_St} {d u : Nat} {a b c : Int32}
def Seg (f : Nat → Int32) : Nat → List Int32 → Prop
  | _, [] => True
  | i, x :: l => f i = x ∧ Seg f (i + 1) l
def Stk (f : Nat → Int32) : List Int32 → Prop
  | [] => True
  | x :: l => f l.length = x ∧ Stk f l
theorem Stk_cg {f g : Nat → Int32} : ∀ {l : List Int32}, (∀ k, k < l.length → g k = f k) → Stk f l → Stk g l
  | [], _, _ => trivial
  | x :: l, e, hs => by
    refine ⟨?_, Stk_cg (fun k hk => e k (by rw [List.length_cons]; omega)) hs.2⟩
    rw [e _ (by rw [List.length_cons]; omega)]; exact hs.1
def jn (op l r : Int32) : Int32 := if op = nI 37 then (if r = nI 0 then nI 0 else l - l / r * r) else if op = nI 38 then (if l = nI 0 then nI 0 else if r = nI 0 then nI 0 else nI 1) else if op = nI 42 then l * r else if op = nI 43 then l + r else if op = nI 45 then l - r else if op = nI 47 then (if r = nI 0 then nI 0 else l / r) else if op = nI 60 then (if l < r then nI 1 else nI 0) else if op = nI 61 then (if l = r then nI 1 else nI 0) else if op = nI 62 then (if r < l then nI 1 else nI 0) else if op = nI 124 then (if l = nI 0 then (if r = nI 0 then nI 0 else nI 1) else nI 1) else nI 0
theorem ri_ {P : Prop} {hP : Decidable P} (x y : Int32) : (some (some (Value.int (if P then x else y)), σ) : j_R) = if P then some (some (.int x), σ) else some (some (.int y), σ) := by
  split <;> rfl
theorem c3 (op l r : Int32) : j_C (d + 1) 3 [.int op, .int l, .int r] σ = some (some (.int (jn op l r)), σ) := by
  rw [j_C_eq]
  by_cases r0 : r = nI 0
  · simp only [st_3_0, st_3_1, st_3_92, st_3_93, st_3_96, st_3_97, st_3_100, st_3_101, st_3_104, st_3_105, st_3_106, st_3_107, st_3_110, st_3_111, st_3_114, st_3_115, st_3_118, st_3_119, st_3_120, st_3_121, st_3_122, st_3_125, st_3_126, st_3_129, st_3_130, st_3_131, st_3_132, st_3_133, st_3_136, st_3_137, st_3_140, st_3_141, st_3_142, st_3_143, st_3_144, st_3_147, st_3_148, st_3_151, st_3_152, st_3_153, st_3_154, st_3_155, st_3_156, st_3_157, st_3_158, st_3_159, st_3_160, st_3_161, st_3_162, st_3_163, st_3_164, st_3_165, st_3_166, st_3_169, st_3_170, st_3_173, st_3_174, st_3_175, st_3_176, st_3_177, st_3_178, st_3_181, st_3_182, st_3_185, st_3_186, st_3_187, st_3_188, st_3_189, st_3_190, ini_3, fs_cl, fs_len, fs_rf, fs_M, fs_put, fs_cpy, if_true, if_false, rv_ref, true_or, or_true, true_and, and_true, nI_ltI, ix_nI, nI_clamp, ps_i, ps_n, Option.bind_some, sm_0, sm_1, sm_2, sm_3, sm_4, sto_0, sto_1, sto_2, sto_3, sto_4, sto_5, sto_6, sto_7, sto_8, sto_9, sto_10, sto_11, sto_12, sto_13, sto_14, nlo_n, nlo_i, nlo_r, nlo_0, nlo_l, and_self, or_self, jn, r0, ri_]
  · simp only [st_3_0, st_3_1, st_3_92, st_3_93, st_3_96, st_3_97, st_3_100, st_3_101, st_3_104, st_3_105, st_3_106, st_3_107, st_3_110, st_3_111, st_3_114, st_3_115, st_3_118, st_3_119, st_3_120, st_3_121, st_3_122, st_3_125, st_3_126, st_3_129, st_3_130, st_3_131, st_3_132, st_3_133, st_3_136, st_3_137, st_3_140, st_3_141, st_3_142, st_3_143, st_3_144, st_3_147, st_3_148, st_3_151, st_3_152, st_3_153, st_3_154, st_3_155, st_3_156, st_3_157, st_3_158, st_3_159, st_3_160, st_3_161, st_3_162, st_3_163, st_3_164, st_3_165, st_3_166, st_3_169, st_3_170, st_3_173, st_3_174, st_3_175, st_3_176, st_3_177, st_3_178, st_3_181, st_3_182, st_3_185, st_3_186, st_3_187, st_3_188, st_3_189, st_3_190, ini_3, fs_cl, fs_len, fs_rf, fs_M, fs_put, fs_cpy, if_true, if_false, rv_ref, true_or, or_true, true_and, and_true, nI_ltI, ix_nI, nI_clamp, ps_i, ps_n, Option.bind_some, sm_0, sm_1, sm_2, sm_3, sm_4, sto_0, sto_1, sto_2, sto_3, sto_4, sto_5, sto_6, sto_7, sto_8, sto_9, sto_10, sto_11, sto_12, sto_13, sto_14, nlo_n, nlo_i, nlo_r, nlo_0, nlo_l, and_self, or_self, jn, r0, ri_]
def stp (a b c : Int32) (l : List Int32) (s : Int32) : List Int32 :=
  if s < nI 0 then (if s < (-3) then (if s = (-33) then (if l.headD (nI 0) = nI 0 then nI 1 else nI 0) :: l.tail else jn (-s) (l.tail.headD (nI 0)) (l.headD (nI 0)) :: l.tail.tail) else (if s = (-1) then a else if s = (-2) then b else c) :: l) else s :: l
def wko (K : List Int32) (a b c : Int32) : Int32 := (K.foldl (stp a b c) []).headD (nI 0)
def Lw (h : j_Hd) (u : Nat) : Prop := hC h u = 0 ∧ hR h u 0 = u + 1 ∧ Nb h (u + 1) (u + 2) 50 ∧ hR h u 1 = u + 3 ∧ Nb h (u + 3) (u + 4) 50
theorem law_pop (hl : Lw h u) {l : List Int32} (h1 : M (u + 3) 1 = nI l.length) (h2 : l.length ≤ 50) (h3 : Stk (M (u + 4)) l) : ∃ M', j_C (d + 1) 37 [.ref (u + 3)] (FS h M) = some (some (.int (l.headD (nI 0))), FS h M') ∧ M' (u + 3) 1 = nI l.tail.length ∧ Stk (M' (u + 4)) l.tail ∧ ∀ x, x ≠ u + 3 → M' x = M x := by
  obtain ⟨g1, g2, g3, g4, g5⟩ := hl
  cases l with
  | nil => exact ⟨M, n37z g5 h1, h1, trivial, fun _ _ => rfl⟩
  | cons x l =>
    rw [List.length_cons] at h1 h2
    refine ⟨_, ?_, up_s _ _ _, ?_, fun x hx => up_r _ _ _ _ hx⟩
    · rw [n37 g5 h1 (by omega), h3.1]; rfl
    · rw [up_r _ _ _ _ (by omega)]; exact h3.2
theorem law_psh (hl : Lw h u) {l : List Int32} (h1 : M (u + 3) 1 = nI l.length) (h2 : l.length < 50) (h3 : Stk (M (u + 4)) l) (v : Int32) : ∃ M', j_C (d + 1) 36 [.ref (u + 3), .int v] (FS h M) = some (some (.int (nI 1)), FS h M') ∧ M' (u + 3) 1 = nI (v :: l).length ∧ Stk (M' (u + 4)) (v :: l) ∧ ∀ x, x ≠ u + 3 → x ≠ u + 4 → M' x = M x := by
  obtain ⟨g1, g2, g3, g4, g5⟩ := hl
  refine ⟨_, n36 g5 h1 h2 v, up_s _ _ _, ?_, fun x hx hx2 => ?_⟩
  · rw [up_r _ _ _ _ (by omega)]
    refine ⟨up_s _ _ _, Stk_cg (fun k hk => ?_) h3⟩
    exact up_k _ _ _ _ (by omega)
  · rw [up_r _ _ _ _ hx, up_r _ _ _ _ hx2]
theorem stp_len (l : List Int32) (s : Int32) : (stp a b c l s).length ≤ l.length + 1 := by
  unfold stp
  have e1 : l.tail.length ≤ l.length := by rw [List.length_tail]; omega
  have e2 : l.tail.tail.length ≤ l.length := by rw [List.length_tail, List.length_tail]; omega
  repeat' split
  all_goals rw [List.length_cons]; omega
theorem c2l (hl : Lw h u) {n : Nat} (hn : n ≤ 50) : ∀ (K : List Int32) (i : Nat) (l : List Int32) (M : Nat → Nat → Int32) (o5 o6 o7 : Option Value), i + K.length = n → l.length ≤ i → M (u + 1) 1 = nI n → Seg (M (u + 2)) i K → M (u + 3) 1 = nI l.length → Stk (M (u + 4)) l → ∃ M', j_X (d + 1) 2 10 [some (.ref u), some (.int a), some (.int b), some (.int c), some (.int (nI i)), o5, o6, o7] [] (FS h M) = some (some (.int ((K.foldl (stp a b c) l).headD (nI 0))), FS h M') ∧ ∀ x, x ≠ u + 3 → x ≠ u + 4 → M' x = M x := by
  have hl' := hl
  obtain ⟨g1, g2, g3, g4, g5⟩ := hl'
  have r1 : j_rv (u + 1) = .ref (u + 1) := rv_ref (by omega)
  have r3 : j_rv (u + 3) = .ref (u + 3) := rv_ref (by omega)
  intro K
  induction K with
  | nil =>
    intro i l M o5 o6 o7 hi hli hs hg hk hst
    obtain ⟨M', p1, p2, p3, p4⟩ := law_pop (d := d) hl hk (by rw [List.length_nil] at hi; omega) hst
    rw [List.length_nil] at hi
    have e1 : ¬ i < n := by omega
    refine ⟨M', ?_, fun x hx _ => p4 x hx⟩
    rw [st_2_10]
    simp (disch := omega) only [st_2_0, st_2_1, st_2_4, st_2_7, st_2_8, st_2_12, st_2_13, st_2_16, st_2_19, st_2_22, st_2_23, st_2_26, st_2_28, st_2_31, st_2_33, st_2_35, st_2_38, st_2_39, st_2_42, st_2_44, st_2_47, st_2_47r, st_2_48, st_2_51, st_2_53, st_2_55, st_2_58, st_2_59, st_2_62, st_2_64, st_2_65, st_2_68, st_2_69, st_2_72, st_2_74, st_2_76, st_2_79, st_2_80, st_2_83, st_2_84, st_2_87, st_2_87r, st_2_88, st_2_91, st_2_93, st_2_95, st_2_98, st_2_99, st_2_102, st_2_103, st_2_106, st_2_109, st_2_112, st_2_113, st_2_116, st_2_117, st_2_120, st_2_120r, st_2_121, st_2_124, st_2_125, st_2_128, st_2_131, st_2_133, st_2_134, st_2_137, st_2_140, st_2_142, st_2_143, st_2_146, st_2_148, st_2_149, st_2_151, st_2_153, st_2_156, st_2_159, st_2_159r, st_2_160, st_2_163, st_2_166, st_2_167, st_2_170, st_2_173, ini_2, fs_cl, fs_len, fs_rf, fs_M, fs_put, fs_cpy, if_true, if_false, rv_ref, true_or, or_true, true_and, and_true, nI_ltI, ix_nI, nI_clamp, ps_i, ps_n, Option.bind_some, sm_0, sm_1, sm_2, sm_3, sm_4, sto_0, sto_1, sto_2, sto_3, sto_4, sto_5, sto_6, sto_7, sto_8, sto_9, sto_10, sto_11, sto_12, sto_13, sto_14, nlo_n, nlo_i, nlo_r, nlo_0, nlo_l, and_self, or_self, g1, g2, g4, g3.1, g5.1, r1, r3, n32 g3.1, hs, e1, p1]
    rfl
  | cons s K ih =>
    intro i l M o5 o6 o7 hi hli hs hg hk hst
    rw [List.length_cons] at hi
    have e1 : i < n := by omega
    have hg1 := hg.1
    have hgi := n33i (d := d) (M := M) g3 (by omega : i < 50)
    rw [hg1] at hgi
    have fin : ∀ M1 : Nat → Nat → Int32, M1 (u + 3) 1 = nI (stp a b c l s).length → Stk (M1 (u + 4)) (stp a b c l s) → (∀ x, x ≠ u + 3 → x ≠ u + 4 → M1 x = M x) → ∀ o5 o6 o7, ∃ M', j_X (d + 1) 2 10 [some (.ref u), some (.int a), some (.int b), some (.int c), some (.int (nI (i + 1))), o5, o6, o7] [] (FS h M1) = some (some (.int (((s :: K).foldl (stp a b c) l).headD (nI 0))), FS h M') ∧ ∀ x, x ≠ u + 3 → x ≠ u + 4 → M' x = M x := by
      intro M1 q1 q2 q3 o5 o6 o7
      obtain ⟨M', hX, hf⟩ := ih (i + 1) (stp a b c l s) M1 o5 o6 o7 (by omega) (by have := stp_len (a := a) (b := b) (c := c) l s; omega) (by rw [q3 _ (by omega) (by omega)]; exact hs) (by rw [q3 _ (by omega) (by omega)]; exact hg.2) q1 q2
      exact ⟨M', hX, fun x hx hx2 => by rw [hf x hx hx2, q3 x hx hx2]⟩
    by_cases c1 : s < nI 0
    · by_cases c2 : s < (-3)
      · by_cases c3' : s = (-33)
        · obtain ⟨M1, p1, p2, p3, p4⟩ := law_pop (d := d) hl hk (by omega) hst
          obtain ⟨M2, q1, q2, q3, q4⟩ := law_psh (d := d) hl p2 (by rw [List.length_tail]; omega) p3 (if l.headD (nI 0) = nI 0 then nI 1 else nI 0)
          have es : stp a b c l s = (if l.headD (nI 0) = nI 0 then nI 1 else nI 0) :: l.tail := by
            unfold stp; rw [if_pos c1, if_pos c2, if_pos c3']
          obtain ⟨M', hX, hf⟩ := fin M2 (by rw [es]; exact q2) (by rw [es]; exact q3) (fun x hx hx2 => by rw [q4 x hx hx2, p4 x hx]) (some (.int s)) o6 o7
          refine ⟨M', ?_, hf⟩
          rw [← hX, st_2_10]
          by_cases c4 : l.headD (nI 0) = nI 0
          · rw [if_pos c4] at q1
            simp (disch := omega) only [st_2_0, st_2_1, st_2_4, st_2_7, st_2_8, st_2_12, st_2_13, st_2_16, st_2_19, st_2_22, st_2_23, st_2_26, st_2_28, st_2_31, st_2_33, st_2_35, st_2_38, st_2_39, st_2_42, st_2_44, st_2_47, st_2_47r, st_2_48, st_2_51, st_2_53, st_2_55, st_2_58, st_2_59, st_2_62, st_2_64, st_2_65, st_2_68, st_2_69, st_2_72, st_2_74, st_2_76, st_2_79, st_2_80, st_2_83, st_2_84, st_2_87, st_2_87r, st_2_88, st_2_91, st_2_93, st_2_95, st_2_98, st_2_99, st_2_102, st_2_103, st_2_106, st_2_109, st_2_112, st_2_113, st_2_116, st_2_117, st_2_120, st_2_120r, st_2_121, st_2_124, st_2_125, st_2_128, st_2_131, st_2_133, st_2_134, st_2_137, st_2_140, st_2_142, st_2_143, st_2_146, st_2_148, st_2_149, st_2_151, st_2_153, st_2_156, st_2_159, st_2_159r, st_2_160, st_2_163, st_2_166, st_2_167, st_2_170, st_2_173, ini_2, fs_cl, fs_len, fs_rf, fs_M, fs_put, fs_cpy, if_true, if_false, rv_ref, true_or, or_true, true_and, and_true, nI_ltI, ix_nI, nI_clamp, ps_i, ps_n, Option.bind_some, sm_0, sm_1, sm_2, sm_3, sm_4, sto_0, sto_1, sto_2, sto_3, sto_4, sto_5, sto_6, sto_7, sto_8, sto_9, sto_10, sto_11, sto_12, sto_13, sto_14, nlo_n, nlo_i, nlo_r, nlo_0, nlo_l, and_self, or_self, g1, g2, g4, g3.1, g5.1, r1, r3, n32 g3.1, hs, e1, hgi, c1, c2, eq_true c3', p1, c4, q1, nI_add]
          · rw [if_neg c4] at q1
            simp (disch := omega) only [st_2_0, st_2_1, st_2_4, st_2_7, st_2_8, st_2_12, st_2_13, st_2_16, st_2_19, st_2_22, st_2_23, st_2_26, st_2_28, st_2_31, st_2_33, st_2_35, st_2_38, st_2_39, st_2_42, st_2_44, st_2_47, st_2_47r, st_2_48, st_2_51, st_2_53, st_2_55, st_2_58, st_2_59, st_2_62, st_2_64, st_2_65, st_2_68, st_2_69, st_2_72, st_2_74, st_2_76, st_2_79, st_2_80, st_2_83, st_2_84, st_2_87, st_2_87r, st_2_88, st_2_91, st_2_93, st_2_95, st_2_98, st_2_99, st_2_102, st_2_103, st_2_106, st_2_109, st_2_112, st_2_113, st_2_116, st_2_117, st_2_120, st_2_120r, st_2_121, st_2_124, st_2_125, st_2_128, st_2_131, st_2_133, st_2_134, st_2_137, st_2_140, st_2_142, st_2_143, st_2_146, st_2_148, st_2_149, st_2_151, st_2_153, st_2_156, st_2_159, st_2_159r, st_2_160, st_2_163, st_2_166, st_2_167, st_2_170, st_2_173, ini_2, fs_cl, fs_len, fs_rf, fs_M, fs_put, fs_cpy, if_true, if_false, rv_ref, true_or, or_true, true_and, and_true, nI_ltI, ix_nI, nI_clamp, ps_i, ps_n, Option.bind_some, sm_0, sm_1, sm_2, sm_3, sm_4, sto_0, sto_1, sto_2, sto_3, sto_4, sto_5, sto_6, sto_7, sto_8, sto_9, sto_10, sto_11, sto_12, sto_13, sto_14, nlo_n, nlo_i, nlo_r, nlo_0, nlo_l, and_self, or_self, g1, g2, g4, g3.1, g5.1, r1, r3, n32 g3.1, hs, e1, hgi, c1, c2, eq_true c3', p1, c4, q1, nI_add]
        · obtain ⟨M1, p1, p2, p3, p4⟩ := law_pop (d := d) hl hk (by omega) hst
          obtain ⟨M2, q1, q2, q3, q4⟩ := law_pop (d := d) hl p2 (by rw [List.length_tail]; omega) p3
          obtain ⟨M3, s1, s2, s3, s4⟩ := law_psh (d := d) hl q2 (by rw [List.length_tail, List.length_tail]; omega) q3 (jn (-s) (l.tail.headD (nI 0)) (l.headD (nI 0)))
          have es : stp a b c l s = jn (-s) (l.tail.headD (nI 0)) (l.headD (nI 0)) :: l.tail.tail := by
            unfold stp; rw [if_pos c1, if_pos c2, if_neg c3']
          obtain ⟨M', hX, hf⟩ := fin M3 (by rw [es]; exact s2) (by rw [es]; exact s3) (fun x hx hx2 => by rw [s4 x hx hx2, q4 x hx, p4 x hx]) (some (.int s)) (some (.int (l.headD (nI 0)))) (some (.int (l.tail.headD (nI 0))))
          refine ⟨M', ?_, hf⟩
          rw [← hX, st_2_10]
          simp (disch := omega) only [st_2_0, st_2_1, st_2_4, st_2_7, st_2_8, st_2_12, st_2_13, st_2_16, st_2_19, st_2_22, st_2_23, st_2_26, st_2_28, st_2_31, st_2_33, st_2_35, st_2_38, st_2_39, st_2_42, st_2_44, st_2_47, st_2_47r, st_2_48, st_2_51, st_2_53, st_2_55, st_2_58, st_2_59, st_2_62, st_2_64, st_2_65, st_2_68, st_2_69, st_2_72, st_2_74, st_2_76, st_2_79, st_2_80, st_2_83, st_2_84, st_2_87, st_2_87r, st_2_88, st_2_91, st_2_93, st_2_95, st_2_98, st_2_99, st_2_102, st_2_103, st_2_106, st_2_109, st_2_112, st_2_113, st_2_116, st_2_117, st_2_120, st_2_120r, st_2_121, st_2_124, st_2_125, st_2_128, st_2_131, st_2_133, st_2_134, st_2_137, st_2_140, st_2_142, st_2_143, st_2_146, st_2_148, st_2_149, st_2_151, st_2_153, st_2_156, st_2_159, st_2_159r, st_2_160, st_2_163, st_2_166, st_2_167, st_2_170, st_2_173, ini_2, fs_cl, fs_len, fs_rf, fs_M, fs_put, fs_cpy, if_true, if_false, rv_ref, true_or, or_true, true_and, and_true, nI_ltI, ix_nI, nI_clamp, ps_i, ps_n, Option.bind_some, sm_0, sm_1, sm_2, sm_3, sm_4, sto_0, sto_1, sto_2, sto_3, sto_4, sto_5, sto_6, sto_7, sto_8, sto_9, sto_10, sto_11, sto_12, sto_13, sto_14, nlo_n, nlo_i, nlo_r, nlo_0, nlo_l, and_self, or_self, g1, g2, g4, g3.1, g5.1, r1, r3, n32 g3.1, hs, e1, hgi, c1, c2, c3', p1, q1, c3, s1, nI_add]
      · obtain ⟨M1, p1, p2, p3, p4⟩ := law_psh (d := d) hl hk (by omega) hst (if s = (-1) then a else if s = (-2) then b else c)
        have es : stp a b c l s = (if s = (-1) then a else if s = (-2) then b else c) :: l := by
          unfold stp; rw [if_pos c1, if_neg c2]
        obtain ⟨M', hX, hf⟩ := fin M1 (by rw [es]; exact p2) (by rw [es]; exact p3) p4 (some (.int s)) o6 o7
        refine ⟨M', ?_, hf⟩
        rw [← hX, st_2_10]
        by_cases c4 : s = (-1)
        · rw [if_pos c4] at p1
          simp (disch := omega) only [st_2_0, st_2_1, st_2_4, st_2_7, st_2_8, st_2_12, st_2_13, st_2_16, st_2_19, st_2_22, st_2_23, st_2_26, st_2_28, st_2_31, st_2_33, st_2_35, st_2_38, st_2_39, st_2_42, st_2_44, st_2_47, st_2_47r, st_2_48, st_2_51, st_2_53, st_2_55, st_2_58, st_2_59, st_2_62, st_2_64, st_2_65, st_2_68, st_2_69, st_2_72, st_2_74, st_2_76, st_2_79, st_2_80, st_2_83, st_2_84, st_2_87, st_2_87r, st_2_88, st_2_91, st_2_93, st_2_95, st_2_98, st_2_99, st_2_102, st_2_103, st_2_106, st_2_109, st_2_112, st_2_113, st_2_116, st_2_117, st_2_120, st_2_120r, st_2_121, st_2_124, st_2_125, st_2_128, st_2_131, st_2_133, st_2_134, st_2_137, st_2_140, st_2_142, st_2_143, st_2_146, st_2_148, st_2_149, st_2_151, st_2_153, st_2_156, st_2_159, st_2_159r, st_2_160, st_2_163, st_2_166, st_2_167, st_2_170, st_2_173, ini_2, fs_cl, fs_len, fs_rf, fs_M, fs_put, fs_cpy, if_true, if_false, rv_ref, true_or, or_true, true_and, and_true, nI_ltI, ix_nI, nI_clamp, ps_i, ps_n, Option.bind_some, sm_0, sm_1, sm_2, sm_3, sm_4, sto_0, sto_1, sto_2, sto_3, sto_4, sto_5, sto_6, sto_7, sto_8, sto_9, sto_10, sto_11, sto_12, sto_13, sto_14, nlo_n, nlo_i, nlo_r, nlo_0, nlo_l, and_self, or_self, g1, g2, g4, g3.1, g5.1, r1, r3, n32 g3.1, hs, e1, hgi, c1, c2, eq_true c4, p1, nI_add]
        · by_cases c5 : s = (-2)
          · rw [if_neg c4, if_pos c5] at p1
            simp (disch := omega) only [st_2_0, st_2_1, st_2_4, st_2_7, st_2_8, st_2_12, st_2_13, st_2_16, st_2_19, st_2_22, st_2_23, st_2_26, st_2_28, st_2_31, st_2_33, st_2_35, st_2_38, st_2_39, st_2_42, st_2_44, st_2_47, st_2_47r, st_2_48, st_2_51, st_2_53, st_2_55, st_2_58, st_2_59, st_2_62, st_2_64, st_2_65, st_2_68, st_2_69, st_2_72, st_2_74, st_2_76, st_2_79, st_2_80, st_2_83, st_2_84, st_2_87, st_2_87r, st_2_88, st_2_91, st_2_93, st_2_95, st_2_98, st_2_99, st_2_102, st_2_103, st_2_106, st_2_109, st_2_112, st_2_113, st_2_116, st_2_117, st_2_120, st_2_120r, st_2_121, st_2_124, st_2_125, st_2_128, st_2_131, st_2_133, st_2_134, st_2_137, st_2_140, st_2_142, st_2_143, st_2_146, st_2_148, st_2_149, st_2_151, st_2_153, st_2_156, st_2_159, st_2_159r, st_2_160, st_2_163, st_2_166, st_2_167, st_2_170, st_2_173, ini_2, fs_cl, fs_len, fs_rf, fs_M, fs_put, fs_cpy, if_true, if_false, rv_ref, true_or, or_true, true_and, and_true, nI_ltI, ix_nI, nI_clamp, ps_i, ps_n, Option.bind_some, sm_0, sm_1, sm_2, sm_3, sm_4, sto_0, sto_1, sto_2, sto_3, sto_4, sto_5, sto_6, sto_7, sto_8, sto_9, sto_10, sto_11, sto_12, sto_13, sto_14, nlo_n, nlo_i, nlo_r, nlo_0, nlo_l, and_self, or_self, g1, g2, g4, g3.1, g5.1, r1, r3, n32 g3.1, hs, e1, hgi, c1, c2, c4, eq_true c5, p1, nI_add]
          · rw [if_neg c4, if_neg c5] at p1
            simp (disch := omega) only [st_2_0, st_2_1, st_2_4, st_2_7, st_2_8, st_2_12, st_2_13, st_2_16, st_2_19, st_2_22, st_2_23, st_2_26, st_2_28, st_2_31, st_2_33, st_2_35, st_2_38, st_2_39, st_2_42, st_2_44, st_2_47, st_2_47r, st_2_48, st_2_51, st_2_53, st_2_55, st_2_58, st_2_59, st_2_62, st_2_64, st_2_65, st_2_68, st_2_69, st_2_72, st_2_74, st_2_76, st_2_79, st_2_80, st_2_83, st_2_84, st_2_87, st_2_87r, st_2_88, st_2_91, st_2_93, st_2_95, st_2_98, st_2_99, st_2_102, st_2_103, st_2_106, st_2_109, st_2_112, st_2_113, st_2_116, st_2_117, st_2_120, st_2_120r, st_2_121, st_2_124, st_2_125, st_2_128, st_2_131, st_2_133, st_2_134, st_2_137, st_2_140, st_2_142, st_2_143, st_2_146, st_2_148, st_2_149, st_2_151, st_2_153, st_2_156, st_2_159, st_2_159r, st_2_160, st_2_163, st_2_166, st_2_167, st_2_170, st_2_173, ini_2, fs_cl, fs_len, fs_rf, fs_M, fs_put, fs_cpy, if_true, if_false, rv_ref, true_or, or_true, true_and, and_true, nI_ltI, ix_nI, nI_clamp, ps_i, ps_n, Option.bind_some, sm_0, sm_1, sm_2, sm_3, sm_4, sto_0, sto_1, sto_2, sto_3, sto_4, sto_5, sto_6, sto_7, sto_8, sto_9, sto_10, sto_11, sto_12, sto_13, sto_14, nlo_n, nlo_i, nlo_r, nlo_0, nlo_l, and_self, or_self, g1, g2, g4, g3.1, g5.1, r1, r3, n32 g3.1, hs, e1, hgi, c1, c2, c4, c5, p1, nI_add]
    · obtain ⟨M1, p1, p2, p3, p4⟩ := law_psh (d := d) hl hk (by omega) hst s
      have es : stp a b c l s = s :: l := by
        unfold stp; rw [if_neg c1]
      obtain ⟨M', hX, hf⟩ := fin M1 (by rw [es]; exact p2) (by rw [es]; exact p3) p4 (some (.int s)) o6 o7
      refine ⟨M', ?_, hf⟩
      rw [← hX, st_2_10]
      simp (disch := omega) only [st_2_0, st_2_1, st_2_4, st_2_7, st_2_8, st_2_12, st_2_13, st_2_16, st_2_19, st_2_22, st_2_23, st_2_26, st_2_28, st_2_31, st_2_33, st_2_35, st_2_38, st_2_39, st_2_42, st_2_44, st_2_47, st_2_47r, st_2_48, st_2_51, st_2_53, st_2_55, st_2_58, st_2_59, st_2_62, st_2_64, st_2_65, st_2_68, st_2_69, st_2_72, st_2_74, st_2_76, st_2_79, st_2_80, st_2_83, st_2_84, st_2_87, st_2_87r, st_2_88, st_2_91, st_2_93, st_2_95, st_2_98, st_2_99, st_2_102, st_2_103, st_2_106, st_2_109, st_2_112, st_2_113, st_2_116, st_2_117, st_2_120, st_2_120r, st_2_121, st_2_124, st_2_125, st_2_128, st_2_131, st_2_133, st_2_134, st_2_137, st_2_140, st_2_142, st_2_143, st_2_146, st_2_148, st_2_149, st_2_151, st_2_153, st_2_156, st_2_159, st_2_159r, st_2_160, st_2_163, st_2_166, st_2_167, st_2_170, st_2_173, ini_2, fs_cl, fs_len, fs_rf, fs_M, fs_put, fs_cpy, if_true, if_false, rv_ref, true_or, or_true, true_and, and_true, nI_ltI, ix_nI, nI_clamp, ps_i, ps_n, Option.bind_some, sm_0, sm_1, sm_2, sm_3, sm_4, sto_0, sto_1, sto_2, sto_3, sto_4, sto_5, sto_6, sto_7, sto_8, sto_9, sto_10, sto_11, sto_12, sto_13, sto_14, nlo_n, nlo_i, nlo_r, nlo_0, nlo_l, and_self, or_self, g1, g2, g4, g3.1, g5.1, r1, r3, n32 g3.1, hs, e1, hgi, c1, p1, nI_add]

/-- a code in its place -/
def Cd (M : Nat → Nat → Int32) (u : Nat) (K : List Int32) : Prop := M (u + 1) 1 = nI K.length ∧ K.length ≤ 50 ∧ Seg (M (u + 2)) 0 K
theorem c2 (hl : Lw h u) {K : List Int32} (hk : Cd M u K) (a b c : Int32) : ∃ M', j_C (d + 2) 2 [.ref u, .int a, .int b, .int c] (FS h M) = some (some (.int (wko K a b c)), FS h M') ∧ ∀ x, x ≠ u + 3 → x ≠ u + 4 → M' x = M x := by
  have hl' := hl
  obtain ⟨g1, g2, g3, g4, g5⟩ := hl'
  have r3 : j_rv (u + 3) = .ref (u + 3) := rv_ref (by omega)
  obtain ⟨M', hX, hf⟩ := c2l (d := d) (a := a) (b := b) (c := c) hl hk.2.1 K 0 [] (j_up M (u + 3) 1 (nI 0)) none none none (by omega) (Nat.le_refl _) (by rw [up_r _ _ _ _ (by omega)]; exact hk.1) (by rw [up_r _ _ _ _ (by omega)]; exact hk.2.2) (up_s _ _ _) trivial
  refine ⟨M', ?_, fun x hx hx2 => by rw [hf x hx hx2, up_r _ _ _ _ hx]⟩
  rw [j_C_eq]
  simp only [st_2_0, st_2_1, st_2_4, st_2_7, st_2_8, st_2_12, st_2_13, st_2_16, st_2_19, st_2_22, st_2_23, st_2_26, st_2_28, st_2_31, st_2_33, st_2_35, st_2_38, st_2_39, st_2_42, st_2_44, st_2_47, st_2_47r, st_2_48, st_2_51, st_2_53, st_2_55, st_2_58, st_2_59, st_2_62, st_2_64, st_2_65, st_2_68, st_2_69, st_2_72, st_2_74, st_2_76, st_2_79, st_2_80, st_2_83, st_2_84, st_2_87, st_2_87r, st_2_88, st_2_91, st_2_93, st_2_95, st_2_98, st_2_99, st_2_102, st_2_103, st_2_106, st_2_109, st_2_112, st_2_113, st_2_116, st_2_117, st_2_120, st_2_120r, st_2_121, st_2_124, st_2_125, st_2_128, st_2_131, st_2_133, st_2_134, st_2_137, st_2_140, st_2_142, st_2_143, st_2_146, st_2_148, st_2_149, st_2_151, st_2_153, st_2_156, st_2_159, st_2_159r, st_2_160, st_2_163, st_2_166, st_2_167, st_2_170, st_2_173, ini_2, fs_cl, fs_len, fs_rf, fs_M, fs_put, fs_cpy, if_true, if_false, rv_ref, true_or, or_true, true_and, and_true, nI_ltI, ix_nI, nI_clamp, ps_i, ps_n, Option.bind_some, sm_0, sm_1, sm_2, sm_3, sm_4, sto_0, sto_1, sto_2, sto_3, sto_4, sto_5, sto_6, sto_7, sto_8, sto_9, sto_10, sto_11, sto_12, sto_13, sto_14, nlo_n, nlo_i, nlo_r, nlo_0, nlo_l, and_self, or_self, g1, g4, g5.1, r3, n38 g5.1, hX]
  rfl

/-! Both sides: voices. -/
variable {h : j_Hd} {M M1 M2 M3 : Nat → Nat → Int32} {o b sc sf ar n : Nat} {E E' : Nat → Nat} {z : Int32} {K0 K1 K : List Int32} {T : Nat → Nat} {W : Nat → Int32} {num mk : Int32} {k : Nat}
def snV (num : Int32) (f : Nat) (x : Int32) : Int32 × List Int32 := if f = 1 ∨ f = 4 then ((x + num) * nI 3, [nI 20, nI 10]) else (x + num, [nI 10])
def tkV (num mk : Int32) (f : Nat) (x : Int32) : Int32 × List Int32 := if f = 2 then (-(x - mk), [nI 30, nI 12]) else if f = 5 then ((-(x - mk)) ^^^ num, [nI 60, nI 30, nI 12]) else (x - mk, [nI 12])
def sl0 (num : Int32) (k : Nat) (x : Int32) : Int32 × List Int32 := ((snV num k x).1 * nI 2, nI 11 :: (snV num k x).2)
def sl3 (num mk : Int32) (k : Nat) (x : Int32) : Int32 × List Int32 := ((sl0 num k x).1 - (tkV num mk k (nI 1)).1, nI 40 :: ((sl0 num k x).2 ++ (tkV num mk k (nI 1)).2))
def slV (num mk : Int32) (k f : Nat) (x : Int32) : Int32 × List Int32 := if f = 3 then sl3 num mk k x else if f = 6 then ((sl3 num mk k (x + nI 1)).1, nI 70 :: (sl3 num mk k (x + nI 1)).2) else sl0 num k x
def tl0 (num mk : Int32) (k : Nat) (x : Int32) : Int32 × List Int32 := ((slV num mk k k x).1 ^^^ (tkV num mk k x).1, nI 13 :: ((slV num mk k k x).2 ++ (tkV num mk k x).2))
def tlV (num mk : Int32) (k f : Nat) (x : Int32) : Int32 × List Int32 := if f = 4 then ((tl0 num mk k x).1 - (snV num k (nI 2)).1, nI 50 :: ((tl0 num mk k x).2 ++ (snV num k (nI 2)).2)) else if f = 5 then ((slV num mk k k x).1 - (tl0 num mk k x).1, nI 61 :: ((slV num mk k k x).2 ++ (tl0 num mk k x).2)) else tl0 num mk k x
theorem sn_len (f : Nat) (x : Int32) : (snV num f x).2.length ≤ 2 := by
  unfold snV; split
  · exact Nat.le_refl _
  · show 1 ≤ 2; omega
theorem tk_len (f : Nat) (x : Int32) : (tkV num mk f x).2.length ≤ 3 := by
  unfold tkV; split
  · show 2 ≤ 3; omega
  · split
    · exact Nat.le_refl _
    · show 1 ≤ 3; omega
theorem sl0_len (x : Int32) : (sl0 num k x).2.length ≤ 3 := by
  have := sn_len (num := num) k x
  show (snV num k x).2.length + 1 ≤ 3; omega
theorem sl3_len (x : Int32) : (sl3 num mk k x).2.length ≤ 7 := by
  have a := sl0_len (num := num) (k := k) x
  have b := tk_len (num := num) (mk := mk) k (nI 1)
  show ((sl0 num k x).2 ++ (tkV num mk k (nI 1)).2).length + 1 ≤ 7
  rw [List.length_append]; omega
theorem sl_len (f : Nat) (x : Int32) : (slV num mk k f x).2.length ≤ 8 := by
  unfold slV; split
  · have := sl3_len (num := num) (mk := mk) (k := k) x; omega
  · split
    · have := sl3_len (num := num) (mk := mk) (k := k) (x + nI 1)
      show (sl3 num mk k (x + nI 1)).2.length + 1 ≤ 8; omega
    · have := sl0_len (num := num) (k := k) x; omega
theorem tl0_len (x : Int32) : (tl0 num mk k x).2.length ≤ 12 := by
  have a := sl_len (num := num) (mk := mk) (k := k) k x
  have b := tk_len (num := num) (mk := mk) k x
  show ((slV num mk k k x).2 ++ (tkV num mk k x).2).length + 1 ≤ 12
  rw [List.length_append]; omega
theorem tl_len (f : Nat) (x : Int32) : (tlV num mk k f x).2.length ≤ 21 := by
  have a := tl0_len (num := num) (mk := mk) (k := k) x
  have b := sn_len (num := num) k (nI 2)
  have c := sl_len (num := num) (mk := mk) (k := k) k x
  unfold tlV; split
  · show ((tl0 num mk k x).2 ++ (snV num k (nI 2)).2).length + 1 ≤ 21
    rw [List.length_append]; omega
  · split
    · show ((slV num mk k k x).2 ++ (tl0 num mk k x).2).length + 1 ≤ 21
      rw [List.length_append]; omega
    · omega
/-- what is traced -/
def TrG (sc sf ar : Nat) (M : Nat → Nat → Int32) (n : Nat) (M' : Nat → Nat → Int32) (L : List Int32) : Prop := M' sc sf = nI (n + L.length) ∧ (∀ i, i < n → M' ar i = M ar i) ∧ Seg (M' ar) n L ∧ (∀ x, x ≠ sc → x ≠ ar → M' x = M x) ∧ ∀ j, j ≠ sf → M' sc j = M sc j
theorem Seg_pre {f g : Nat → Int32} : ∀ {l : List Int32} {i m : Nat}, i + l.length ≤ m → (∀ j, j < m → g j = f j) → Seg f i l → Seg g i l
  | [], _, _, _, _, _ => trivial
  | x :: l, i, m, hm, he, hs => by
    rw [List.length_cons] at hm
    exact ⟨by rw [he i (by omega)]; exact hs.1, Seg_pre (m := m) (by omega) he hs.2⟩
theorem Seg_ap {f : Nat → Int32} : ∀ {l l2 : List Int32} {i : Nat}, Seg f i l → Seg f (i + l.length) l2 → Seg f i (l ++ l2)
  | [], _, _, _, h2 => h2
  | x :: l, l2, i, h1, h2 => by
    refine ⟨h1.1, Seg_ap h1.2 ?_⟩
    rw [List.length_cons] at h2
    rw [show i + 1 + l.length = i + (l.length + 1) by omega]; exact h2
theorem Tr_t {L L2 : List Int32} (h1 : TrG sc sf ar M n M1 L) (h2 : TrG sc sf ar M1 (n + L.length) M2 L2) : TrG sc sf ar M n M2 (L ++ L2) := by
  obtain ⟨a1, a2, a3, a4, a5⟩ := h1
  obtain ⟨b1, b2, b3, b4, b5⟩ := h2
  refine ⟨?_, fun i hi => by rw [b2 i (by omega), a2 i hi], Seg_ap (Seg_pre (m := n + L.length) (Nat.le_refl _) b2 a3) b3, fun x hx hy => by rw [b4 x hx hy, a4 x hx hy], fun j hj => by rw [b5 j hj, a5 j hj]⟩
  rw [b1, List.length_append, Nat.add_assoc]
/-! the class -/
def ow (f a : Nat) : Nat := if a = 0 then (if f = 1 ∨ f = 4 then 1 else 0) else if a = 1 then (if f = 3 then 3 else if f = 6 then 6 else 0) else if a = 2 then (if f = 2 then 2 else if f = 5 then 5 else 0) else (if f = 4 then 4 else if f = 5 then 5 else 0)
theorem c78 (hh : Hd h) (hS : ST M) {f a : Nat} (hf : f < 7) (ha : a < 4) {e : Nat} (he : 1 ≤ e) : j_C e 78 [.int (nI f), .int (nI a)] (FS h M) = some (some (.int (nI (bdK (f * 4 + a)))), FS h M) := by
  obtain ⟨e, rfl⟩ : ∃ d, e = d + 1 := ⟨e - 1, by omega⟩
  have s1 := hh.2.2.2.2.2.2.2.2.2.2.1
  have s2 := hh.2.2.2.2.2.2.2.2.2.2.2
  have g := hS.2 (f * 4 + a) (by omega)
  have n0 : ¬ nI (f * 4 + a) < nI 0 := nI_nlt (Nat.zero_le _) (by omega)
  have l28 : f * 4 + a < 28 := by omega
  rw [j_C_eq]
  simp (disch := omega) only [st_78_0, st_78_1, st_78_2, st_78_3, st_78_4, st_78_5, st_78_6, st_78_7, st_78_10, st_78_11, st_78_14, st_78_15, st_78_18, st_78_21, st_78_22, st_78_23, st_78_26, st_78_27, ini_78, fs_cl, fs_len, fs_rf, fs_M, fs_put, fs_cpy, ↓reduceIte, rv_ref, true_or, or_true, true_and, and_true, nI_ltI, ix_nI, nI_clamp, ps_i, ps_n, Option.bind_some, sm_0, sm_1, sm_2, sm_3, sm_4, sto_0, sto_1, sto_2, sto_3, sto_4, sto_5, sto_6, sto_7, sto_8, sto_9, sto_10, sto_11, sto_12, sto_13, sto_14, nlo_n, nlo_i, nlo_r, nlo_0, nlo_l, and_self, or_self, Nat.reduceEqDiff, Nat.reduceLT, Nat.reduceLeDiff, Nat.one_ne_zero, Nat.zero_ne_one, nI_mul, nI_add, n0, s1, s2, l28, g]
def owS (a : Nat) : Nat → Nat → Nat
  | 0, _ => 7
  | r + 1, f => if f = 7 then 7 else if bdK (f * 4 + a) = 0 then owS a r (abN f) else f
theorem ow_S : ∀ f, f < 7 → ∀ a, a < 4 → owS a 7 f = ow f a := by decide +kernel
theorem bd_le : ∀ f, f < 7 → ∀ a, a < 4 → bdK (f * 4 + a) ≤ 70 := by decide +kernel
theorem ow_lt : ∀ f, f < 7 → ∀ a, a < 4 → ow f a < 7 := by decide +kernel
theorem c77 (hh : Hd h) (hS : ST M) {f a : Nat} (hf : f < 7) (ha : a < 4) {e : Nat} (he : 2 ≤ e) : j_C e 77 [.int (nI f), .int (nI a)] (FS h M) = some (some (.int (nI (ow f a))), FS h M) := by
  obtain ⟨e, rfl⟩ : ∃ d, e = d + 1 := ⟨e - 1, by omega⟩
  have L : ∀ r s f, f ≤ 7 → r + s = 7 → ∀ x : Int32, j_X e 77 4 [some (.int x), some (.int (nI a)), some (.int (aI f)), some (.int (nI s))] [] (FS h M) = some (some (.int (aI (owS a r f))), FS h M) := by
    intro r
    induction r with
    | zero =>
      intro s f hf hs x
      have e1 : ¬ s < 7 := by omega
      rw [st_77_4]
      simp (disch := omega) only [st_77_0, st_77_1, st_77_2, st_77_3, st_77_5, st_77_7, st_77_10, st_77_11, st_77_14, st_77_15, st_77_16, st_77_19, st_77_22, st_77_23, st_77_24, st_77_25, st_77_28, st_77_29, st_77_32, st_77_35, st_77_36, ini_77, fs_cl, fs_len, fs_rf, fs_M, fs_put, fs_cpy, ↓reduceIte, rv_ref, true_or, or_true, true_and, and_true, nI_ltI, ix_nI, nI_clamp, ps_i, ps_n, Option.bind_some, sm_0, sm_1, sm_2, sm_3, sm_4, sto_0, sto_1, sto_2, sto_3, sto_4, sto_5, sto_6, sto_7, sto_8, sto_9, sto_10, sto_11, sto_12, sto_13, sto_14, nlo_n, nlo_i, nlo_r, nlo_0, nlo_l, and_self, or_self, Nat.reduceEqDiff, Nat.reduceLT, Nat.reduceLeDiff, Nat.one_ne_zero, Nat.zero_ne_one, e1]
      rfl
    | succ r ih =>
      intro s f hf hs x
      have e1 : s < 7 := by omega
      unfold owS
      rw [st_77_4]
      by_cases c7 : f = 7
      · rw [if_pos c7]
        have em : (-1 : Int32) < nI 0 := by decide +kernel
        have ea : aI f = -1 := by rw [c7]; rfl
        have eb : aI 7 = -1 := rfl
        rw [ea, eb]
        simp (disch := omega) only [st_77_0, st_77_1, st_77_2, st_77_3, st_77_5, st_77_7, st_77_10, st_77_11, st_77_14, st_77_15, st_77_16, st_77_19, st_77_22, st_77_23, st_77_24, st_77_25, st_77_28, st_77_29, st_77_32, st_77_35, st_77_36, ini_77, fs_cl, fs_len, fs_rf, fs_M, fs_put, fs_cpy, ↓reduceIte, rv_ref, true_or, or_true, true_and, and_true, nI_ltI, ix_nI, nI_clamp, ps_i, ps_n, Option.bind_some, sm_0, sm_1, sm_2, sm_3, sm_4, sto_0, sto_1, sto_2, sto_3, sto_4, sto_5, sto_6, sto_7, sto_8, sto_9, sto_10, sto_11, sto_12, sto_13, sto_14, nlo_n, nlo_i, nlo_r, nlo_0, nlo_l, and_self, or_self, Nat.reduceEqDiff, Nat.reduceLT, Nat.reduceLeDiff, Nat.one_ne_zero, Nat.zero_ne_one, e1, em]
      · rw [if_neg c7]
        have c6 : f < 7 := by omega
        have ea : aI f = nI f := by unfold aI; rw [if_pos c6]
        have n0 : ¬ nI f < nI 0 := nI_nlt (Nat.zero_le _) (by omega)
        have g := c78 hh hS c6 ha (e := e) (by omega)
        have bl := bd_le f c6 a ha
        by_cases c0 : bdK (f * 4 + a) = 0
        · rw [if_pos c0]
          have g2 := c130 hh hS hf (e := e) (by omega)
          rw [ea] at g2
          have hX := ih (s + 1) (abN f) (abN_le f) (by omega) x
          rw [ea]
          rw [c0] at g
          simp (disch := omega) only [st_77_0, st_77_1, st_77_2, st_77_3, st_77_5, st_77_7, st_77_10, st_77_11, st_77_14, st_77_15, st_77_16, st_77_19, st_77_22, st_77_23, st_77_24, st_77_25, st_77_28, st_77_29, st_77_32, st_77_35, st_77_36, ini_77, fs_cl, fs_len, fs_rf, fs_M, fs_put, fs_cpy, ↓reduceIte, rv_ref, true_or, or_true, true_and, and_true, nI_ltI, ix_nI, nI_clamp, ps_i, ps_n, Option.bind_some, sm_0, sm_1, sm_2, sm_3, sm_4, sto_0, sto_1, sto_2, sto_3, sto_4, sto_5, sto_6, sto_7, sto_8, sto_9, sto_10, sto_11, sto_12, sto_13, sto_14, nlo_n, nlo_i, nlo_r, nlo_0, nlo_l, and_self, or_self, Nat.reduceEqDiff, Nat.reduceLT, Nat.reduceLeDiff, Nat.one_ne_zero, Nat.zero_ne_one, e1, n0, g, g2, nI_add, hX]
        · rw [if_neg c0]
          have c0' : ¬ nI (bdK (f * 4 + a)) = nI 0 := nI_ne c0 (by omega) (by omega)
          rw [ea]
          simp (disch := omega) only [st_77_0, st_77_1, st_77_2, st_77_3, st_77_5, st_77_7, st_77_10, st_77_11, st_77_14, st_77_15, st_77_16, st_77_19, st_77_22, st_77_23, st_77_24, st_77_25, st_77_28, st_77_29, st_77_32, st_77_35, st_77_36, ini_77, fs_cl, fs_len, fs_rf, fs_M, fs_put, fs_cpy, ↓reduceIte, rv_ref, true_or, or_true, true_and, and_true, nI_ltI, ix_nI, nI_clamp, ps_i, ps_n, Option.bind_some, sm_0, sm_1, sm_2, sm_3, sm_4, sto_0, sto_1, sto_2, sto_3, sto_4, sto_5, sto_6, sto_7, sto_8, sto_9, sto_10, sto_11, sto_12, sto_13, sto_14, nlo_n, nlo_i, nlo_r, nlo_0, nlo_l, and_self, or_self, Nat.reduceEqDiff, Nat.reduceLT, Nat.reduceLeDiff, Nat.one_ne_zero, Nat.zero_ne_one, e1, n0, g, c0']
  have ea : aI f = nI f := by unfold aI; rw [if_pos hf]
  have hX := L 7 0 f (by omega) (by omega) (nI f)
  rw [ow_S f hf a ha, ea, show aI (ow f a) = nI (ow f a) by unfold aI; rw [if_pos (ow_lt f hf a ha)]] at hX
  rw [j_C_eq]
  simp only [st_77_0, st_77_1, st_77_2, st_77_3, st_77_5, st_77_7, st_77_10, st_77_11, st_77_14, st_77_15, st_77_16, st_77_19, st_77_22, st_77_23, st_77_24, st_77_25, st_77_28, st_77_29, st_77_32, st_77_35, st_77_36, ini_77, fs_cl, fs_len, fs_rf, fs_M, fs_put, fs_cpy, ↓reduceIte, rv_ref, true_or, or_true, true_and, and_true, nI_ltI, ix_nI, nI_clamp, ps_i, ps_n, Option.bind_some, sm_0, sm_1, sm_2, sm_3, sm_4, sto_0, sto_1, sto_2, sto_3, sto_4, sto_5, sto_6, sto_7, sto_8, sto_9, sto_10, sto_11, sto_12, sto_13, sto_14, nlo_n, nlo_i, nlo_r, nlo_0, nlo_l, and_self, or_self, Nat.reduceEqDiff, Nat.reduceLT, Nat.reduceLeDiff, Nat.one_ne_zero, Nat.zero_ne_one]
  exact hX
theorem ST_Tr {L : List Int32} (ht : TrG 98 1 99 M n M1 L) (hS : ST M) : ST M1 := by
  unfold ST at hS ⊢
  rw [ht.2.2.2.1 1001 (by omega) (by omega), ht.2.2.2.1 1002 (by omega) (by omega)]; exact hS
/-- a voice's state -/
def Vc (M : Nat → Nat → Int32) (k : Nat) (num mk : Int32) : Prop := M 97 1 = nI k ∧ M 97 2 = num ∧ M 97 3 = mk ∧ k < 7 ∧ ST M
theorem Vc_Tr {L : List Int32} (ht : TrG 98 1 99 M n M1 L) (hV : Vc M k num mk) : Vc M1 k num mk := by
  obtain ⟨a, b, c, d, e⟩ := hV
  have q := ht.2.2.2.1 97 (by omega) (by omega)
  exact ⟨by rw [q]; exact a, by rw [q]; exact b, by rw [q]; exact c, d, ST_Tr ht e⟩
/-- the way into a body -/
theorem c76e (hh : Hd h) (hV : Vc M k num mk) {f a dd : Nat} (hf : f < 7) (ha : a < 4) (hd : dd ≤ 40) (x : Int32) (hn : M 98 1 = nI n) (hn2 : n < 40) {e : Nat} (he : 3 ≤ e) : ∃ M1, j_C (e + 1) 76 [.ref 97, .int (nI f), .int (nI a), .int x, .int (nI dd)] (FS h M) = j_X e 76 54 [some (.ref 97), some (.int (nI f)), some (.int (nI a)), some (.int x), some (.int (nI dd)), some (.int (nI (ow f a))), some (.int (nI (bdK (ow f a * 4 + a)))), some (.int (aI (abN (ow f a)))), some (.int (nI (dd + 1)))] [.int (nI (bdK (ow f a * 4 + a)))] (FS h M1) ∧ TrG 98 1 99 M n M1 [nI (bdK (ow f a * 4 + a))] := by
  obtain ⟨_, _, _, _, hS⟩ := hV
  obtain ⟨v0, v1, v2⟩ := hh.2.2.2.2.1
  have g77 := c77 hh hS hf ha (e := e) (by omega)
  have ol := ow_lt f hf a ha
  have g78 := c78 hh hS ol ha (e := e) (by omega)
  have g130 := c130 hh hS (by omega : ow f a ≤ 7) (e := e) (by omega)
  rw [show aI (ow f a) = nI (ow f a) by unfold aI; rw [if_pos ol]] at g130
  have n0 : ¬ nI (ow f a) < nI 0 := nI_nlt (Nat.zero_le _) (by omega)
  have d40 : ¬ 40 < dd := by omega
  obtain ⟨d, hd'⟩ := le_ex (show 1 ≤ e by omega)
  obtain ⟨M1, p1, p2, p3, p4, p5⟩ := n36x (d := d) (M := M) v2 hn hn2 (nI (bdK (ow f a * 4 + a)))
  rw [← hd'] at p1
  refine ⟨M1, ?_, p2, fun i hi => p4 i (by omega), ⟨p3, trivial⟩, p5, fun j hj => ?_⟩
  · rw [j_C_eq]
    simp (disch := omega) only [st_76_0, st_76_1, st_76_2, st_76_5, st_76_7, st_76_9, st_76_12, st_76_14, st_76_16, st_76_19, st_76_20, st_76_21, st_76_23, st_76_24, st_76_27, st_76_29, st_76_31, st_76_34, st_76_36, st_76_38, st_76_39, st_76_40, st_76_42, st_76_43, st_76_46, st_76_48, st_76_51, st_76_51r, st_76_52, ini_76, fs_cl, fs_len, fs_rf, fs_M, fs_put, fs_cpy, ↓reduceIte, rv_ref, true_or, or_true, true_and, and_true, nI_ltI, ix_nI, nI_clamp, ps_i, ps_n, Option.bind_some, sm_0, sm_1, sm_2, sm_3, sm_4, sto_0, sto_1, sto_2, sto_3, sto_4, sto_5, sto_6, sto_7, sto_8, sto_9, sto_10, sto_11, sto_12, sto_13, sto_14, nlo_n, nlo_i, nlo_r, nlo_0, nlo_l, and_self, or_self, Nat.reduceEqDiff, Nat.reduceLT, Nat.reduceLeDiff, Nat.one_ne_zero, Nat.zero_ne_one, v0, v1, v2.1, g77, n0, d40, g78, g130, p1, nI_add]
  · have := n36e (M := M) v2 hn hn2 (nI (bdK (ow f a * 4 + a))) (e := e) (by omega)
    rw [p1] at this
    have e2 : FS h M1 = FS h (j_up (j_up M 99 n (nI (bdK (ow f a * 4 + a)))) 98 1 (nI (n + 1))) := by
      have := Option.some.inj this
      exact congrArg Prod.snd this
    have e3 : M1 = j_up (j_up M 99 n (nI (bdK (ow f a * 4 + a)))) 98 1 (nI (n + 1)) := by
      have := congrArg (fun σ => j_M σ) e2
      exact this
    rw [e3, up_k _ _ _ _ hj, up_o _ _ _ _ _ (by omega)]

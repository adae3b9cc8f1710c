/-! What stands after the constructors. -/
variable {L : Nat} {X : Nat → Int32} {h : j_Hd} {M : Nat → Nat → Int32}
def clT : List Nat := [23, 7, 1, 2, 20, 2, 20, 2, 20, 2, 20, 2, 20, 2, 20, 2, 20, 2, 20, 0, 2, 20, 2, 20, 0, 2, 20, 2, 20, 2, 20, 2, 20, 1, 2, 20, 2, 20, 2, 20, 2, 20, 2, 20, 2, 20, 2, 20, 2, 20, 0, 2, 20, 2, 20, 0, 2, 20, 2, 20, 2, 20, 2, 20, 5, 1, 2, 20, 2, 20, 2, 20, 2, 20, 2, 20, 2, 20, 2, 20, 2, 20, 0, 2, 20, 2, 20, 0, 2, 20, 2, 20, 2, 20, 3, 2, 20, 6, 2, 20, 21, 4, 2, 20, 4, 2, 20, 4, 2, 20, 4, 2, 20, 2, 20, 8, 20, 20, 20, 20, 20, 20, 20, 20, 20, 20, 20]
def lnT : List Nat := [0, 0, 0, 0, 6, 0, 6, 0, 6, 0, 6, 0, 6, 0, 8, 0, 8, 0, 8, 0, 0, 50, 0, 50, 0, 0, 50, 0, 50, 0, 50, 0, 20, 0, 0, 6, 0, 6, 0, 6, 0, 6, 0, 6, 0, 8, 0, 8, 0, 8, 0, 0, 50, 0, 50, 0, 0, 50, 0, 50, 0, 50, 0, 20, 0, 0, 0, 6, 0, 6, 0, 6, 0, 6, 0, 6, 0, 8, 0, 8, 0, 8, 0, 0, 50, 0, 50, 0, 0, 50, 0, 50, 0, 8, 0, 0, 50, 0, 0, 40, 4, 0, 0, 40, 0, 0, 40, 0, 0, 40, 0, 0, 40, 0, 6, 0, 250, 250, 6, 78, 3, 3, 40, 4, 4, 160, 40]
def rfT : List (List Nat) := [[], [2, 29, 31, 33, 60, 62, 0, 64, 94, 97, 100, 113], [3, 5, 7, 9, 11, 13, 15, 17, 19, 24], [4], [], [6], [], [8], [], [10], [], [12], [], [14], [], [16], [], [18], [], [20, 22], [21], [], [23], [], [25, 27], [26], [], [28], [], [30], [], [32], [], [34, 36, 38, 40, 42, 44, 46, 48, 50, 55], [35], [], [37], [], [39], [], [41], [], [43], [], [45], [], [47], [], [49], [], [51, 53], [52], [], [54], [], [56, 58], [57], [], [59], [], [61], [], [63], [], [65, 92], [66, 68, 70, 72, 74, 76, 78, 80, 82, 87], [67], [], [69], [], [71], [], [73], [], [75], [], [77], [], [79], [], [81], [], [83, 85], [84], [], [86], [], [88, 90], [89], [], [91], [], [93], [], [95], [96], [], [98], [99], [], [101, 104, 107, 110], [102], [103], [], [105], [106], [], [108], [109], [], [111], [112], [], [114], [], [116, 117, 0, 118, 119, 0, 0, 0, 0, 0, 0, 120, 121, 122, 0, 0, 123, 124, 125, 126], [], [], [], [], [], [], [], [], [], [], []]
def P0 : j_St := PSt (J0 0 fun _ => nI 0) 326
theorem P0_c : ∀ o, o < 127 → P0.2.2.1 o = clT.getD o 99 := by decide +kernel
theorem P0_n : ∀ o, o < 127 → P0.2.2.2.1 o = lnT.getD o 0 := by decide +kernel
theorem P0_r : ∀ o, o < 127 → ∀ k, k < (rfT.getD o []).length → P0.2.2.2.2.1 o k = (rfT.getD o []).getD k 0 := by decide +kernel
theorem P0_s : P0.2.2.1 1001 = 22 ∧ P0.2.2.2.1 1001 = 7 ∧ P0.2.2.1 1002 = 22 ∧ P0.2.2.2.1 1002 = 28 ∧ P0.2.2.1 1003 = 22 := by decide +kernel
theorem Hd_of (fC : ∀ o, o < 127 → hC h o = clT.getD o 99) (fN : ∀ o, o < 127 → hN h o = lnT.getD o 0) (fR : ∀ o, o < 127 → ∀ k, k < (rfT.getD o []).length → hR h o k = (rfT.getD o []).getD k 0) (s1 : hC h 1001 = 22) (s2 : hN h 1001 = 7) (s3 : hC h 1002 = 22) (s4 : hN h 1002 = 28) : Hd h := by
  simp only [Hd, Mk, Th, Rd, Md, Nb, Lw, Ar]
  repeat' apply And.intro
  all_goals first
    | exact (fC _ (by decide)).trans rfl
    | exact (fN _ (by decide)).trans rfl
    | exact (fR _ (by decide) _ (by decide)).trans rfl
    | exact s1
    | exact s2
    | exact s3
    | exact s4
    | trivial
    | decide
    | skip
  intro i hi
  have hi4 : i = 0 ∨ i = 1 ∨ i = 2 ∨ i = 3 := by omega
  rcases hi4 with q | q | q | q <;> subst q
  all_goals repeat' apply And.intro
  all_goals first
    | exact (fC _ (by decide)).trans rfl
    | exact (fN _ (by decide)).trans rfl
    | exact (fR _ (by decide) _ (by decide)).trans rfl
    | decide
def HF (L : Nat) (X : Nat → Int32) : j_Hd := ((PSt (J0 L X) 326).1, (PSt (J0 L X) 326).2.1, (PSt (J0 L X) 326).2.2.1, (PSt (J0 L X) 326).2.2.2.1, (PSt (J0 L X) 326).2.2.2.2.1)
def MF (L : Nat) (X : Nat → Int32) : Nat → Nat → Int32 := (PSt (J0 L X) 326).2.2.2.2.2
theorem FS_eta (s : j_St) : s = FS (s.1, s.2.1, s.2.2.1, s.2.2.2.1, s.2.2.2.2.1) s.2.2.2.2.2 := rfl
theorem PF : PSt (J0 L X) 326 = FS (HF L X) (MF L X) := by
  unfold HF MF
  exact FS_eta _
theorem HF_c (o : Nat) : hC (HF L X) o = P0.2.2.1 o := congrFun (tw (L := L) (X := X) 326).2.2.1 o
theorem HF_n (o : Nat) (ho : o ≠ 1003) : hN (HF L X) o = P0.2.2.2.1 o := (tw (L := L) (X := X) 326).2.2.2.2.1 o ho
theorem HF_r (o k : Nat) : hR (HF L X) o k = P0.2.2.2.2.1 o k := congrFun (congrFun (tw (L := L) (X := X) 326).2.2.2.1 o) k
theorem MF_m (o : Nat) (ho : o ≠ 1003) : MF L X o = P0.2.2.2.2.2 o := (tw (L := L) (X := X) 326).2.2.2.2.2 o ho
theorem HF_hd : Hd (HF L X) := Hd_of (fun o ho => (HF_c o).trans (P0_c o ho)) (fun o ho => (HF_n o (by omega)).trans (P0_n o ho)) (fun o ho k hk => (HF_r o k).trans (P0_r o ho k hk)) ((HF_c 1001).trans P0_s.1) ((HF_n 1001 (by decide)).trans P0_s.2.1) ((HF_c 1002).trans P0_s.2.2.1) ((HF_n 1002 (by decide)).trans P0_s.2.2.2.1)
theorem ap_ln (s : j_St) : ∀ x : Nat × Nat × Nat × Nat, x.2.2.2 < 900 ∨ 1 < x.1 → (apE s x).2.2.2.1 1003 = s.2.2.2.1 1003
  | (0, _, _, _), _ => rfl
  | (1, _, m, i), h => by
    have hi : i < 900 := by
      rcases h with h | h
      · exact h
      · exact absurd (show 1 < 1 from h) (by decide)
    show (if 1003 = i then m else s.2.2.2.1 1003) = _
    rw [if_neg (by omega)]
  | (2, _, _, _), _ => rfl
  | (3, _, _, _), _ => rfl
  | (_ + 4, _, _, _), _ => rfl
theorem P0_le : ∀ t, t < 326 → (Ev t).2.2.2 < 900 ∨ 1 < (Ev t).1 := by decide +kernel
theorem PSt_ln : ∀ t, t ≤ 326 → (PSt (J0 L X) t).2.2.2.1 1003 = L := by
  intro t
  induction t with
  | zero => intro _; rfl
  | succ t ih =>
    intro ht
    exact (ap_ln _ (Ev t) (P0_le t (by omega))).trans (ih (by omega))
theorem HF_L : hC (HF L X) 1003 = 22 ∧ hN (HF L X) 1003 = L := by
  refine ⟨(HF_c 1003).trans P0_s.2.2.2.2, ?_⟩
  have a := PSt_ln (L := L) (X := X) 326 (by omega)
  generalize hg : PSt (J0 L X) 326 = g at a
  unfold hN HF
  rw [hg]
  exact a
theorem m_3_1 : MF L X 3 1 = nI 0 := (congrFun (MF_m 3 (by decide)) 1).trans (by decide +kernel)
theorem m_5_1 : MF L X 5 1 = nI 0 := (congrFun (MF_m 5 (by decide)) 1).trans (by decide +kernel)
theorem m_7_1 : MF L X 7 1 = nI 0 := (congrFun (MF_m 7 (by decide)) 1).trans (by decide +kernel)
theorem m_9_1 : MF L X 9 1 = nI 0 := (congrFun (MF_m 9 (by decide)) 1).trans (by decide +kernel)
theorem m_11_1 : MF L X 11 1 = nI 0 := (congrFun (MF_m 11 (by decide)) 1).trans (by decide +kernel)
theorem m_13_1 : MF L X 13 1 = nI 0 := (congrFun (MF_m 13 (by decide)) 1).trans (by decide +kernel)
theorem m_15_1 : MF L X 15 1 = nI 0 := (congrFun (MF_m 15 (by decide)) 1).trans (by decide +kernel)
theorem m_17_1 : MF L X 17 1 = nI 0 := (congrFun (MF_m 17 (by decide)) 1).trans (by decide +kernel)
theorem m_2_10 : MF L X 2 10 = nI 0 := (congrFun (MF_m 2 (by decide)) 10).trans (by decide +kernel)
theorem m_2_11 : MF L X 2 11 = nI 3 := (congrFun (MF_m 2 (by decide)) 11).trans (by decide +kernel)
theorem m_2_12 : MF L X 2 12 = nI 0 := (congrFun (MF_m 2 (by decide)) 12).trans (by decide +kernel)
theorem m_2_13 : MF L X 2 13 = nI 1 := (congrFun (MF_m 2 (by decide)) 13).trans (by decide +kernel)
theorem m_20_1 : MF L X 20 1 = nI 0 := (congrFun (MF_m 20 (by decide)) 1).trans (by decide +kernel)
theorem m_25_1 : MF L X 25 1 = nI 0 := (congrFun (MF_m 25 (by decide)) 1).trans (by decide +kernel)
theorem m_29_1 : MF L X 29 1 = nI 0 := (congrFun (MF_m 29 (by decide)) 1).trans (by decide +kernel)
theorem m_31_1 : MF L X 31 1 = nI 0 := (congrFun (MF_m 31 (by decide)) 1).trans (by decide +kernel)
theorem m_115_2 : MF L X 115 2 = nI 0 := (congrFun (MF_m 115 (by decide)) 2).trans (by decide +kernel)
theorem m_1_6 : MF L X 1 6 = nI 0 := (congrFun (MF_m 1 (by decide)) 6).trans (by decide +kernel)
theorem m_98_1 : MF L X 98 1 = nI 0 := (congrFun (MF_m 98 (by decide)) 1).trans (by decide +kernel)
theorem m_115_14 : MF L X 115 14 = nI 0 := (congrFun (MF_m 115 (by decide)) 14).trans (by decide +kernel)
theorem m_116_78 : MF L X 116 78 = nI 0 := (congrFun (MF_m 116 (by decide)) 78).trans (by decide +kernel)
theorem m_116_79 : MF L X 116 79 = nI 0 := (congrFun (MF_m 116 (by decide)) 79).trans (by decide +kernel)
theorem mb_180 : ∀ k, k < 8 → P0.2.2.2.2.2 18 k = nI 0 := by decide +kernel
theorem mb_18 : ∀ k, k < 8 → MF L X 18 k = nI 0 := fun k hk => (congrFun (MF_m 18 (by decide)) k).trans (mb_180 k hk)
theorem mb_490 : ∀ k, k < 8 → P0.2.2.2.2.2 49 k = nI 0 := by decide +kernel
theorem mb_49 : ∀ k, k < 8 → MF L X 49 k = nI 0 := fun k hk => (congrFun (MF_m 49 (by decide)) k).trans (mb_490 k hk)
theorem mb_810 : ∀ k, k < 8 → P0.2.2.2.2.2 81 k = nI 0 := by decide +kernel
theorem mb_81 : ∀ k, k < 8 → MF L X 81 k = nI 0 := fun k hk => (congrFun (MF_m 81 (by decide)) k).trans (mb_810 k hk)
theorem mb_1140 : ∀ k, k < 6 → P0.2.2.2.2.2 114 k = nI 0 := by decide +kernel
theorem mb_114 : ∀ k, k < 6 → MF L X 114 k = nI 0 := fun k hk => (congrFun (MF_m 114 (by decide)) k).trans (mb_1140 k hk)
theorem mb_1180 : ∀ k, k < 6 → P0.2.2.2.2.2 118 k = nI 0 := by decide +kernel
theorem mb_118 : ∀ k, k < 6 → MF L X 118 k = nI 0 := fun k hk => (congrFun (MF_m 118 (by decide)) k).trans (mb_1180 k hk)
theorem mb_1230 : ∀ k, k < 4 → P0.2.2.2.2.2 123 k = nI 0 := by decide +kernel
theorem mb_123 : ∀ k, k < 4 → MF L X 123 k = nI 0 := fun k hk => (congrFun (MF_m 123 (by decide)) k).trans (mb_1230 k hk)
theorem mb_1240 : ∀ k, k < 4 → P0.2.2.2.2.2 124 k = nI 0 := by decide +kernel
theorem mb_124 : ∀ k, k < 4 → MF L X 124 k = nI 0 := fun k hk => (congrFun (MF_m 124 (by decide)) k).trans (mb_1240 k hk)
theorem mb_s0 : ∀ s, s < 4 → P0.2.2.2.2.2 (101 + 3 * s) 1 = nI 0 ∧ P0.2.2.2.2.2 (102 + 3 * s) 1 = nI 0 := by decide +kernel
theorem mb_s : ∀ s, s < 4 → MF L X (101 + 3 * s) 1 = nI 0 ∧ MF L X (102 + 3 * s) 1 = nI 0 := fun s hs => ⟨(congrFun (MF_m (101 + 3 * s) (by omega)) 1).trans (mb_s0 s hs).1, (congrFun (MF_m (102 + 3 * s) (by omega)) 1).trans (mb_s0 s hs).2⟩
def EF (k : Nat) : Nat := if k = 4 then 3 else 0
theorem mb_1160 : ∀ k, k < 78 → k ≠ 5 → P0.2.2.2.2.2 116 k = nI (EF k) := by decide +kernel
theorem mb_116 : ∀ k, k < 78 → k ≠ 5 → MF L X 116 k = nI (EF k) := fun k hk h5 => (congrFun (MF_m 116 (by decide)) k).trans (mb_1160 k hk h5)
theorem m_116_5 : MF L X 116 5 = nI 1 := (congrFun (MF_m 116 (by decide)) 5).trans (by decide +kernel)
theorem mb_10010 : ∀ k, k < 7 → P0.2.2.2.2.2 1001 k = abK k := by decide +kernel
theorem mb_10020 : ∀ k, k < 28 → P0.2.2.2.2.2 1002 k = nI (bdK k) := by decide +kernel
theorem INv_0 : INv (MF L X) := by
  refine ⟨EF, nI 1, [], [], fun _ => 0, fun _ => 0, ⟨⟨by decide, by decide, by decide, by decide, by decide, by decide, fun t ht => absurd ht (by show ¬ t < 0; omega), fun t ht => absurd ht (by show ¬ t < 0; omega)⟩, by decide, by decide, by decide⟩, ⟨⟨⟨m_3_1, m_5_1, m_7_1, m_9_1, m_11_1, m_13_1, m_15_1, m_17_1⟩, fun t ht => absurd ht (by show ¬ t < 0; omega), fun t ht => absurd ht (by show ¬ t < 0; omega), fun c hc => ⟨0, by decide, mb_18 c hc⟩, ⟨m_2_10, m_2_11, m_2_12, m_2_13⟩, ⟨m_20_1, by decide, ?_⟩, ⟨m_25_1, by decide, ?_⟩⟩, ⟨m_29_1, fun t ht => absurd ht (by show ¬ t < 0; omega)⟩, ⟨m_31_1, fun t ht => absurd ht (by show ¬ t < 0; omega)⟩⟩, ⟨⟨⟨mb_116, m_116_5⟩, Or.inl ⟨rfl, m_116_78⟩, Or.inl ⟨rfl, m_116_79⟩⟩, fun t ht => absurd ht (by show ¬ t < 0; omega), fun t ht => absurd ht (by show ¬ t < 0; omega)⟩, fun c hc => ⟨0, by decide, mb_81 c hc⟩, fun k h1 h2 => (mb_114 k h2).trans (mb_118 k h2).symm, fun c hc => ⟨0, by decide, mb_49 c hc⟩, ⟨m_115_2.trans m_1_6.symm, Or.inl m_1_6⟩, ⟨0, by decide, m_98_1, m_115_14, fun i hi => absurd hi (by omega)⟩, fun s hs => ⟨0, 0, Or.inl rfl, by decide, fun _ => rfl, (mb_s s hs).1, mb_123 s hs, (mb_s s hs).2, mb_124 s hs, fun i hi => absurd hi (by omega)⟩, ⟨fun k hk => (congrFun (MF_m 1001 (by decide)) k).trans (mb_10010 k hk), fun k hk => (congrFun (MF_m 1002 (by decide)) k).trans (mb_10020 k hk)⟩⟩
  · simp only [Seg]
  · simp only [Seg]
theorem law_J (hL : L ≤ 3072) {e : Nat} (he : 100 ≤ e) : ∃ M', j_X e 225 0 [some (.ref 1003), none, none, none] [] (J0 L X) = some (some (.int (nI 1)), FS (HF L X) M') := by
  obtain ⟨M', hM⟩ := lw_loop HF_hd HF_L hL he (L / 6 + 1) 0 (MF L X) (by omega) (by omega) INv_0
  refine ⟨M', ?_⟩
  have a := q225 (L := L) (X := X) (e := e) (by omega)
  rw [PF, hM] at a
  exact a

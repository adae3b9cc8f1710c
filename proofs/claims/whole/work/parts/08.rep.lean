/-! The heap that J pictures. -/
/-- what stays through all calls: the classes' numbers and slots, the two classes of arrays, the heap as the law found it, where the arrays that nobody writes lie -/
abbrev j_G : Type := va_G × ClassId × ClassId × Heap × (Nat → Nat)
def j_B (G : j_G) : Nat := G.2.2.2.1.size
def j_ad (G : j_G) (id : Nat) : Nat := if id < 1000 then j_B G + (id - 1) else G.2.2.2.2 id
def j_tr (G : j_G) : Value → Value
  | .ref n => .ref (j_ad G n)
  | v => v
def j_fd (G : j_G) (σ : j_St) (ci o : Nat) : List Value := (List.range (j_nf ci)).map fun s => j_tr G (j_getf ci s σ o)
def j_en (G : j_G) (σ : j_St) (o : Nat) : va_E :=
  if j_cl σ o = 20 then .inl (G.2.1, j_len σ o, .inl (j_M σ o))
  else if j_cl σ o = 21 then .inl (G.2.2.1, j_len σ o, .inr (.inr (.inr (.inr fun i => if j_rf σ o i = 0 then none else some (j_ad G (j_rf σ o i))))))
  else .inr (j_cl σ o, j_fd G σ (j_cl σ o) o)
def j_ws (G : j_G) (σ : j_St) : va_W := (List.range (j_n σ)).map fun k => (j_B G + k, j_en G σ (k + 1))
def j_Ad (G : j_G) : Nat → Prop := fun q => j_B G ≤ q
def j_wf (σ : j_St) : Prop := j_n σ ≤ 900 ∧ ∀ o, j_cl σ o < 22 → 1 ≤ o ∧ o ≤ j_n σ ∧ (j_cl σ o < 9 ∨ 20 ≤ j_cl σ o)
def j_stt (G : j_G) (σ : j_St) (s : State) : Prop := ∀ o, j_cl σ o = 22 → 1000 ≤ o ∧ j_ad G o < j_B G ∧ va_X (j_ad G o) (j_len σ o) (j_M σ o) s G.2.2.2.1
def j_Rep (G : j_G) (σ : j_St) (s : State) (H : Heap) : Prop := j_wf σ ∧ j_stt G σ s ∧ (∀ q : Nat, q < j_B G → H[q]? = G.2.2.2.1[q]?) ∧ va_P G.1 vwCl (j_ws G σ) H
/-- the two constants of text that the class has -/
def j_str (G : j_G) (s : State) : Prop := vk_R RX3 73 "vld" (G.2.2.2.2 1010) s ∧ vk_R RX3 75 "vkt" (G.2.2.2.2 1011) s ∧ vk_S 2 [3, 3] [[118, 108, 100], [118, 107, 116]] (fun i => G.2.2.2.2 (1010 + i)) (fun i => G.2.2.2.2 (1020 + i)) (j_Ad G) s G.2.2.2.1 ∧ va_Z "java/lang/String" "COMPACT_STRINGS" "Z" (.int 1) (j_Ad G) s G.2.2.2.1
theorem j_str.warm {G : j_G} {s U : State} (hW : s.WarmedH U.vm) (h : j_str G s) : j_str G U := ⟨h.1.warm hW, h.2.1.warm hW, h.2.2.1.moved hW.alike, h.2.2.2.moved hW.alike⟩
def j_K (G : j_G) (s : State) : Prop := va_K G.1 vwCl [(G.2.1, .int), (G.2.2.1, .object "WhiffCoins$Sheet")] s ∧ va_AO "WhiffCoins$Sheet" s ∧ (∀ q ∈ j_nest, ∀ m, j_m q.2.2 = some m → va_Nw (.methodLinkNest (j_on q.1) q.2.1 (j_y m) "WhiffCoins") s) ∧ (∀ id, id = 1001 ∨ id = 1002 → va_Z (j_sn id).1 (j_sn id).2 "[I" (.ref (j_ad G id)) (j_Ad G) s G.2.2.2.1) ∧ j_str G s
theorem j_K.warm {G : j_G} {s U : State} (hW : s.WarmedH U.vm) (h : j_K G s) : j_K G U :=
  ⟨va_K.moved hW.alike h.1, h.2.1.moved hW.alike, fun q hq m hm => va_Nw.warmM hW (h.2.2.1 q hq m hm), fun id hid => (h.2.2.2.1 id hid).moved hW.alike, h.2.2.2.2.warm hW⟩
theorem j_stt.moved {G : j_G} {σ : j_St} {s U : State} (hvm : s.vm.Alike U.vm) (h : j_stt G σ s) : j_stt G σ U := fun o ho => ⟨(h o ho).1, (h o ho).2.1, (h o ho).2.2.moved hvm⟩
theorem j_Rep.moved {G : j_G} {σ : j_St} {s U : State} {H : Heap} (hvm : s.vm.Alike U.vm) (h : j_Rep G σ s H) : j_Rep G σ U H := ⟨h.1, h.2.1.moved hvm, h.2.2⟩
theorem j_ws_len (G : j_G) (σ : j_St) : (j_ws G σ).length = j_n σ := by simp [j_ws]
theorem j_ws_get {G : j_G} {σ : j_St} (k : Nat) (h : k < j_n σ) : (j_ws G σ)[k]? = some (j_B G + k, j_en G σ (k + 1)) := by
  simp [j_ws, h]
theorem j_ws_inv {G : j_G} {σ : j_St} {k : Nat} {q : Nat × va_E} (h : (j_ws G σ)[k]? = some q) : k < j_n σ ∧ q = (j_B G + k, j_en G σ (k + 1)) := by
  have hk : k < (j_ws G σ).length := (List.getElem?_eq_some_iff.mp h).1
  rw [j_ws_len] at hk
  rw [j_ws_get k hk] at h
  exact ⟨hk, (Option.some.inj h).symm⟩
theorem j_ws_at {G : j_G} {σ : j_St} (hw : j_wf σ) {o : Nat} (h : j_cl σ o < 22) : (j_ws G σ)[o - 1]? = some (j_ad G o, j_en G σ o) := by
  obtain ⟨h1, h2, -⟩ := hw.2 o h
  have h3 := hw.1
  rw [j_ws_get (o - 1) (by omega), show o - 1 + 1 = o by omega]
  unfold j_ad
  rw [if_pos (by omega)]
theorem j_D (G : j_G) (σ : j_St) : va_D (j_Ad G) (j_ws G σ) := by
  refine ⟨fun i j p q hp hq e => ?_, fun k q hk => ?_⟩
  · obtain ⟨-, rfl⟩ := j_ws_inv hp
    obtain ⟨-, rfl⟩ := j_ws_inv hq
    have : j_B G + i = j_B G + j := e
    omega
  · obtain ⟨-, rfl⟩ := j_ws_inv hk
    exact Nat.le_add_right _ _
/-- one cell changed -/
theorem j_ws_set {G : j_G} {σ τ : j_St} (hw : j_wf σ) {o : Nat} (h : j_cl σ o < 22) (hn : j_n τ = j_n σ) (he : ∀ o', o' ≠ o → j_en G τ o' = j_en G σ o') : (j_ws G σ).set (o - 1) (j_ad G o, j_en G τ o) = j_ws G τ := by
  obtain ⟨h1, h2, -⟩ := hw.2 o h
  have h3 := hw.1
  apply List.ext_getElem?
  intro k
  by_cases hk : k < j_n σ
  · by_cases hko : k = o - 1
    · subst hko
      rw [List.getElem?_set_self (by rw [j_ws_len]; exact hk), j_ws_get _ (by rw [hn]; exact hk), show o - 1 + 1 = o by omega]
      unfold j_ad
      rw [if_pos (by omega)]
    · rw [List.getElem?_set_ne (Ne.symm hko), j_ws_get _ hk, j_ws_get _ (by rw [hn]; exact hk), he _ (by omega)]
  · rw [List.getElem?_eq_none (by rw [List.length_set, j_ws_len]; omega), List.getElem?_eq_none (by rw [j_ws_len, hn]; omega)]
theorem j_ws_push {G : j_G} {σ τ : j_St} (hn : j_n τ = j_n σ + 1) (he : ∀ o', o' ≠ j_n σ + 1 → j_en G τ o' = j_en G σ o') : j_ws G σ ++ [(j_B G + j_n σ, j_en G τ (j_n σ + 1))] = j_ws G τ := by
  apply List.ext_getElem?
  intro k
  by_cases hk : k < j_n σ
  · rw [List.getElem?_append_left (by rw [j_ws_len]; exact hk), j_ws_get _ hk, j_ws_get _ (by omega), he _ (by omega)]
  · by_cases hk2 : k = j_n σ
    · subst hk2
      rw [List.getElem?_append_right (by rw [j_ws_len]; exact Nat.le_refl _), j_ws_len, Nat.sub_self, j_ws_get _ (by omega)]
      rfl
    · rw [List.getElem?_eq_none (by rw [List.length_append, j_ws_len]; simp only [List.length_singleton]; omega), List.getElem?_eq_none (by rw [j_ws_len]; omega)]
theorem j_fd_get {G : j_G} {σ : j_St} {ci o s : Nat} (h : s < j_nf ci) : (j_fd G σ ci o)[s]? = some (j_tr G (j_getf ci s σ o)) := by
  simp [j_fd, h]
theorem j_fd_len (G : j_G) (σ : j_St) (ci o : Nat) : (j_fd G σ ci o).length = j_nf ci := by simp [j_fd]
theorem j_fd_set {G : j_G} {σ τ : j_St} {ci o s : Nat} {v : Value} (hv : j_tr G (j_getf ci s τ o) = v) (he : ∀ s', s' ≠ s → j_getf ci s' τ o = j_getf ci s' σ o) : (j_fd G σ ci o).set s v = j_fd G τ ci o := by
  apply List.ext_getElem?
  intro k
  by_cases hk : k < j_nf ci
  · by_cases hks : k = s
    · subst hks
      rw [List.getElem?_set_self (by rw [j_fd_len]; exact hk), j_fd_get hk, hv]
    · rw [List.getElem?_set_ne (Ne.symm hks), j_fd_get hk, j_fd_get hk, he k hks]
  · rw [List.getElem?_eq_none (by rw [List.length_set, j_fd_len]; omega), List.getElem?_eq_none (by rw [j_fd_len]; omega)]
theorem j_en_obj {G : j_G} {σ : j_St} {o ci : Nat} (h : j_cl σ o = ci) (hc : ci < 9) : j_en G σ o = .inr (ci, j_fd G σ ci o) := by
  unfold j_en
  rw [if_neg (by omega), if_neg (by omega), h]
theorem j_en_arr {G : j_G} {σ : j_St} {o : Nat} (h : j_cl σ o = 20) : j_en G σ o = .inl (G.2.1, j_len σ o, .inl (j_M σ o)) := by
  unfold j_en
  rw [if_pos h]
theorem j_en_ref {G : j_G} {σ : j_St} {o : Nat} (h : j_cl σ o = 21) : j_en G σ o = .inl (G.2.2.1, j_len σ o, .inr (.inr (.inr (.inr fun i => if j_rf σ o i = 0 then none else some (j_ad G (j_rf σ o i)))))) := by
  unfold j_en
  rw [if_neg (by omega), if_pos h]
/-- the locals -/
def j_LH (G : j_G) (ls : Array Slot) (nL : Nat) (L : j_L) : Prop := ls.size = nL ∧ lv_wf ls ∧ ∀ (i : Nat) (v : Value), j_get L i = some v → ls[i]? = some (.val (j_tr G v))
def j_lv (G : j_G) : Nat → j_L → List (Nat × Value)
  | _, [] => []
  | i, some v :: L => (i, j_tr G v) :: j_lv G (i + 1) L
  | i, none :: L => j_lv G (i + 1) L
theorem j_lv_mem {G : j_G} : ∀ (L : j_L) (i : Nat) (q : Nat × Value), q ∈ j_lv G i L ↔ ∃ k v, q = (i + k, j_tr G v) ∧ j_get L k = some v := by
  intro L
  induction L with
  | nil => intro i q; simp [j_lv, j_get]
  | cons o L ih =>
    intro i q
    constructor
    · intro h
      cases o with
      | none =>
        obtain ⟨k, v, e, hk⟩ := (ih (i + 1) q).mp h
        exact ⟨k + 1, v, by rw [e]; congr 1; omega, hk⟩
      | some w =>
        rcases List.mem_cons.mp h with rfl | h
        · exact ⟨0, w, rfl, rfl⟩
        · obtain ⟨k, v, e, hk⟩ := (ih (i + 1) q).mp h
          exact ⟨k + 1, v, by rw [e]; congr 1; omega, hk⟩
    · rintro ⟨k, v, rfl, hk⟩
      cases k with
      | zero =>
        cases o with
        | none => simp [j_get] at hk
        | some w =>
          simp only [j_get, Option.some.injEq] at hk
          subst hk
          exact List.mem_cons_self
      | succ k =>
        have h1 : (i + (k + 1), j_tr G v) ∈ j_lv G (i + 1) L := (ih (i + 1) _).mpr ⟨k, v, by congr 1; omega, hk⟩
        cases o with
        | none => exact h1
        | some w => exact List.mem_cons_of_mem _ h1
theorem j_LH.has {G : j_G} {ls : Array Slot} {nL : Nat} {L : j_L} (h : j_LH G ls nL L) : lv_has ls nL (j_lv G 0 L) := by
  refine ⟨h.1, h.2.1, fun q hq => ?_⟩
  obtain ⟨k, v, rfl, hk⟩ := (j_lv_mem L 0 q).mp hq
  simpa using h.2.2 k v hk
theorem j_tr_cat (G : j_G) (v : Value) : (j_tr G v).category = v.category := by cases v <;> rfl
theorem j_get_sto {L : j_L} : ∀ {j i : Nat} {v w : Value}, j_get (j_sto L j v) i = some w → (i = j ∧ w = v) ∨ (i ≠ j ∧ j_get L i = some w ∧ ¬ (i + 1 = j ∧ w.category = 2)) := by
  induction L with
  | nil => intro j i v w h; simp [j_sto, j_get] at h
  | cons o L ih =>
    intro j i v w h
    cases j with
    | zero =>
      cases i with
      | zero => simp only [j_sto, j_get, Option.some.injEq] at h; exact Or.inl ⟨rfl, h.symm⟩
      | succ i => exact Or.inr ⟨by omega, h, by omega⟩
    | succ j =>
      cases i with
      | zero =>
        simp only [j_sto, j_get] at h
        by_cases hj : j = 0
        · rw [if_pos hj] at h
          refine Or.inr ⟨by omega, ?_, ?_⟩
          · unfold j_nlo at h
            split at h
            · cases h
            · cases h
            · exact h
          · rintro ⟨-, hc⟩
            unfold j_nlo at h
            split at h
            · cases h
            · cases h
            · rename_i hne1 hne2
              subst h
              cases w <;> simp_all [Value.category]
        · rw [if_neg hj] at h
          exact Or.inr ⟨by omega, h, by omega⟩
      | succ i =>
        rcases ih (j := j) (i := i) (v := v) (w := w) h with ⟨rfl, rfl⟩ | ⟨h1, h2, h3⟩
        · exact Or.inl ⟨rfl, rfl⟩
        · exact Or.inr ⟨by omega, h2, by omega⟩
theorem j_LH.set {G : j_G} {ls' : Array Slot} {nL j : Nat} {L : j_L} {v : Value} (h : lv_has ls' nL ((j, j_tr G v) :: (j_lv G 0 L).filter (fun q => !(q.1 == j) && !(q.1 + 1 == j && q.2.category == 2)))) : j_LH G ls' nL (j_sto L j v) := by
  refine ⟨h.1, h.2.1, fun i w hw => ?_⟩
  rcases j_get_sto hw with ⟨rfl, rfl⟩ | ⟨h1, h2, h3⟩
  · exact h.2.2 _ List.mem_cons_self
  · refine h.2.2 (i, j_tr G w) (List.mem_cons_of_mem _ (List.mem_filter.mpr ⟨(j_lv_mem L 0 _).mpr ⟨i, w, by simp, h2⟩, ?_⟩))
    simp only [Bool.and_eq_true, Bool.not_eq_true', beq_eq_false_iff_ne, ne_eq, Bool.and_eq_false_iff, j_tr_cat]
    refine ⟨h1, ?_⟩
    by_cases h4 : i + 1 = j
    · exact Or.inr (fun q => h3 ⟨h4, q⟩)
    · exact Or.inl h4

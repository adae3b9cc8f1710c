/-! What the Statement's words say of the tables of J (printed by wip/whole/gen5.py). -/
def j_W : List Cond := lw_tbl.filter goodWord
theorem j_W_of {w : Cond} (h : w ∈ lw_tbl) (g : goodWord w = true) : w ∈ j_W := List.mem_filter.mpr ⟨h, g⟩
def j_T : Nat → u_T
  | 0 => TX0
  | 1 => TX1
  | 2 => TX2
  | 3 => TX3
  | 4 => TX4
  | 5 => TX5
  | 6 => TX6
  | 7 => TX7
  | 8 => TX8
  | _ => fun _ => ("", "", "", false)
def j_ty : Nat → Nat → FieldType
  | 0 => tyX0
  | 1 => tyX1
  | 2 => tyX2
  | 3 => tyX3
  | 4 => tyX4
  | 5 => tyX5
  | 6 => tyX6
  | 7 => tyX7
  | 8 => tyX8
  | _ => fun _ => .int
def j_y (m : j_MT) : MethodName := m.2.2.2.1
def j_b (m : j_MT) : ByteArray := m.2.2.2.2.1
def j_lt9 {P : Nat → Prop} (h0 : P 0) (h1 : P 1) (h2 : P 2) (h3 : P 3) (h4 : P 4) (h5 : P 5) (h6 : P 6) (h7 : P 7) (h8 : P 8) : ∀ ci, ci < 9 → P ci := fun ci h => by
  match ci, h with
  | 0, _ => exact h0
  | 1, _ => exact h1
  | 2, _ => exact h2
  | 3, _ => exact h3
  | 4, _ => exact h4
  | 5, _ => exact h5
  | 6, _ => exact h6
  | 7, _ => exact h7
  | 8, _ => exact h8
  | n + 9, h => exact absurd h (by omega)
theorem j_vw : ∀ ci, ci < 9 → vwCl[ci]? = some (j_on ci, j_T ci, j_nf ci) := j_lt9 rfl rfl rfl rfl rfl rfl rfl rfl rfl
theorem j_tyok : ∀ ci, ci < 9 → ∀ k, k < j_nf ci → parseFieldDescriptor (j_T ci k).2.2.1 = some (j_ty ci k) := j_lt9 tyX0_ok tyX1_ok tyX2_ok tyX3_ok tyX4_ok tyX5_ok tyX6_ok tyX7_ok tyX8_ok
theorem j_nmok : ∀ ci, ci < 9 → ∀ a, a < j_nf ci → ∀ b, b < j_nf ci → a ≠ b → (j_T ci a).2.1 ≠ (j_T ci b).2.1 := j_lt9 nmX0 nmX1 nmX2 nmX3 nmX4 nmX5 nmX6 nmX7 nmX8
def j_isR : FieldType → Bool
  | .object _ => true
  | .array _ => true
  | _ => false
def j_fS (ci s : Nat) : Prop := (j_T ci s).1 = j_on ci ∧ match j_kd ci s with
  | 1 => (j_T ci s).2.2.2 = true ∧ j_isR (j_ty ci s) = true
  | 2 => (j_T ci s).2.2.2 = false ∧ j_isR (j_ty ci s) = true
  | 3 => (j_T ci s).2.2.2 = false ∧ j_ty ci s = .boolean
  | _ => (j_T ci s).2.2.2 = false ∧ j_ty ci s = .int
theorem jfs_0 : ∀ s, s < 2 → j_fS 0 s := fun s h => by
  match s, h with
  | 0, _ => exact ⟨rfl, rfl, rfl⟩
  | 1, _ => exact ⟨rfl, rfl, rfl⟩
  | k + 2, h => exact absurd h (by omega)
theorem jfs_1 : ∀ s, s < 14 → j_fS 1 s := fun s h => by
  match s, h with
  | 0, _ => exact ⟨rfl, rfl, rfl⟩
  | 1, _ => exact ⟨rfl, rfl, rfl⟩
  | 2, _ => exact ⟨rfl, rfl, rfl⟩
  | 3, _ => exact ⟨rfl, rfl, rfl⟩
  | 4, _ => exact ⟨rfl, rfl, rfl⟩
  | 5, _ => exact ⟨rfl, rfl, rfl⟩
  | 6, _ => exact ⟨rfl, rfl, rfl⟩
  | 7, _ => exact ⟨rfl, rfl, rfl⟩
  | 8, _ => exact ⟨rfl, rfl, rfl⟩
  | 9, _ => exact ⟨rfl, rfl, rfl⟩
  | 10, _ => exact ⟨rfl, rfl, rfl⟩
  | 11, _ => exact ⟨rfl, rfl, rfl⟩
  | 12, _ => exact ⟨rfl, rfl, rfl⟩
  | 13, _ => exact ⟨rfl, rfl, rfl⟩
  | k + 14, h => exact absurd h (by omega)
theorem jfs_2 : ∀ s, s < 2 → j_fS 2 s := fun s h => by
  match s, h with
  | 0, _ => exact ⟨rfl, rfl, rfl⟩
  | 1, _ => exact ⟨rfl, rfl, rfl⟩
  | k + 2, h => exact absurd h (by omega)
theorem jfs_3 : ∀ s, s < 4 → j_fS 3 s := fun s h => by
  match s, h with
  | 0, _ => exact ⟨rfl, rfl, rfl⟩
  | 1, _ => exact ⟨rfl, rfl, rfl⟩
  | 2, _ => exact ⟨rfl, rfl, rfl⟩
  | 3, _ => exact ⟨rfl, rfl, rfl⟩
  | k + 4, h => exact absurd h (by omega)
theorem jfs_4 : ∀ s, s < 2 → j_fS 4 s := fun s h => by
  match s, h with
  | 0, _ => exact ⟨rfl, rfl, rfl⟩
  | 1, _ => exact ⟨rfl, rfl, rfl⟩
  | k + 2, h => exact absurd h (by omega)
theorem jfs_5 : ∀ s, s < 5 → j_fS 5 s := fun s h => by
  match s, h with
  | 0, _ => exact ⟨rfl, rfl, rfl⟩
  | 1, _ => exact ⟨rfl, rfl, rfl⟩
  | 2, _ => exact ⟨rfl, rfl, rfl⟩
  | 3, _ => exact ⟨rfl, rfl, rfl⟩
  | 4, _ => exact ⟨rfl, rfl, rfl⟩
  | k + 5, h => exact absurd h (by omega)
theorem jfs_6 : ∀ s, s < 4 → j_fS 6 s := fun s h => by
  match s, h with
  | 0, _ => exact ⟨rfl, rfl, rfl⟩
  | 1, _ => exact ⟨rfl, rfl, rfl⟩
  | 2, _ => exact ⟨rfl, rfl, rfl⟩
  | 3, _ => exact ⟨rfl, rfl, rfl⟩
  | k + 4, h => exact absurd h (by omega)
theorem jfs_7 : ∀ s, s < 12 → j_fS 7 s := fun s h => by
  match s, h with
  | 0, _ => exact ⟨rfl, rfl, rfl⟩
  | 1, _ => exact ⟨rfl, rfl, rfl⟩
  | 2, _ => exact ⟨rfl, rfl, rfl⟩
  | 3, _ => exact ⟨rfl, rfl, rfl⟩
  | 4, _ => exact ⟨rfl, rfl, rfl⟩
  | 5, _ => exact ⟨rfl, rfl, rfl⟩
  | 6, _ => exact ⟨rfl, rfl, rfl⟩
  | 7, _ => exact ⟨rfl, rfl, rfl⟩
  | 8, _ => exact ⟨rfl, rfl, rfl⟩
  | 9, _ => exact ⟨rfl, rfl, rfl⟩
  | 10, _ => exact ⟨rfl, rfl, rfl⟩
  | 11, _ => exact ⟨rfl, rfl, rfl⟩
  | k + 12, h => exact absurd h (by omega)
theorem jfs_8 : ∀ s, s < 20 → j_fS 8 s := fun s h => by
  match s, h with
  | 0, _ => exact ⟨rfl, rfl, rfl⟩
  | 1, _ => exact ⟨rfl, rfl, rfl⟩
  | 2, _ => exact ⟨rfl, rfl, rfl⟩
  | 3, _ => exact ⟨rfl, rfl, rfl⟩
  | 4, _ => exact ⟨rfl, rfl, rfl⟩
  | 5, _ => exact ⟨rfl, rfl, rfl⟩
  | 6, _ => exact ⟨rfl, rfl, rfl⟩
  | 7, _ => exact ⟨rfl, rfl, rfl⟩
  | 8, _ => exact ⟨rfl, rfl, rfl⟩
  | 9, _ => exact ⟨rfl, rfl, rfl⟩
  | 10, _ => exact ⟨rfl, rfl, rfl⟩
  | 11, _ => exact ⟨rfl, rfl, rfl⟩
  | 12, _ => exact ⟨rfl, rfl, rfl⟩
  | 13, _ => exact ⟨rfl, rfl, rfl⟩
  | 14, _ => exact ⟨rfl, rfl, rfl⟩
  | 15, _ => exact ⟨rfl, rfl, rfl⟩
  | 16, _ => exact ⟨rfl, rfl, rfl⟩
  | 17, _ => exact ⟨rfl, rfl, rfl⟩
  | 18, _ => exact ⟨rfl, rfl, rfl⟩
  | 19, _ => exact ⟨rfl, rfl, rfl⟩
  | k + 20, h => exact absurd h (by omega)
theorem j_fSok : ∀ ci, ci < 9 → ∀ s, s < j_nf ci → j_fS ci s := j_lt9 jfs_0 jfs_1 jfs_2 jfs_3 jfs_4 jfs_5 jfs_6 jfs_7 jfs_8
theorem jws_0 : ∀ w ∈ u_ws (j_on 0) (j_T 0) (j_nf 0), w ∈ lw_tbl := by
  show ∀ w ∈ [u_lay RX0 TX0 0, u_lay RX0 TX0 1], w ∈ lw_tbl
  exact List.forall_mem_cons.mpr ⟨List.mem_of_getElem? (i := 118) (by decide +kernel), List.forall_mem_cons.mpr ⟨List.mem_of_getElem? (i := 120) (by decide +kernel), fun _ h => absurd h List.not_mem_nil⟩⟩
theorem jws_1 : ∀ w ∈ u_ws (j_on 1) (j_T 1) (j_nf 1), w ∈ lw_tbl := by
  show ∀ w ∈ [u_lay RX1 TX1 0, u_lay RX1 TX1 1, u_lay RX1 TX1 2, u_lay RX1 TX1 3, u_lay RX1 TX1 4, u_lay RX1 TX1 5, u_lay RX1 TX1 6, u_lay RX1 TX1 7, u_lay RX1 TX1 8, u_lay RX1 TX1 9, u_lay RX1 TX1 10, u_lay RX1 TX1 11, u_lay RX1 TX1 12, u_lay RX1 TX1 13], w ∈ lw_tbl
  exact List.forall_mem_cons.mpr ⟨List.mem_of_getElem? (i := 152) (by decide +kernel), List.forall_mem_cons.mpr ⟨List.mem_of_getElem? (i := 154) (by decide +kernel), List.forall_mem_cons.mpr ⟨List.mem_of_getElem? (i := 156) (by decide +kernel), List.forall_mem_cons.mpr ⟨List.mem_of_getElem? (i := 158) (by decide +kernel), List.forall_mem_cons.mpr ⟨List.mem_of_getElem? (i := 160) (by decide +kernel), List.forall_mem_cons.mpr ⟨List.mem_of_getElem? (i := 162) (by decide +kernel), List.forall_mem_cons.mpr ⟨List.mem_of_getElem? (i := 164) (by decide +kernel), List.forall_mem_cons.mpr ⟨List.mem_of_getElem? (i := 166) (by decide +kernel), List.forall_mem_cons.mpr ⟨List.mem_of_getElem? (i := 168) (by decide +kernel), List.forall_mem_cons.mpr ⟨List.mem_of_getElem? (i := 170) (by decide +kernel), List.forall_mem_cons.mpr ⟨List.mem_of_getElem? (i := 172) (by decide +kernel), List.forall_mem_cons.mpr ⟨List.mem_of_getElem? (i := 174) (by decide +kernel), List.forall_mem_cons.mpr ⟨List.mem_of_getElem? (i := 176) (by decide +kernel), List.forall_mem_cons.mpr ⟨List.mem_of_getElem? (i := 178) (by decide +kernel), fun _ h => absurd h List.not_mem_nil⟩⟩⟩⟩⟩⟩⟩⟩⟩⟩⟩⟩⟩⟩
theorem jws_2 : ∀ w ∈ u_ws (j_on 2) (j_T 2) (j_nf 2), w ∈ lw_tbl := by
  show ∀ w ∈ [u_lay RX2 TX2 0, u_lay RX2 TX2 1], w ∈ lw_tbl
  exact List.forall_mem_cons.mpr ⟨List.mem_of_getElem? (i := 100) (by decide +kernel), List.forall_mem_cons.mpr ⟨List.mem_of_getElem? (i := 102) (by decide +kernel), fun _ h => absurd h List.not_mem_nil⟩⟩
theorem jws_3 : ∀ w ∈ u_ws (j_on 3) (j_T 3) (j_nf 3), w ∈ lw_tbl := by
  show ∀ w ∈ [u_lay RX3 TX3 0, u_lay RX3 TX3 1, u_lay RX3 TX3 2, u_lay RX3 TX3 3], w ∈ lw_tbl
  exact List.forall_mem_cons.mpr ⟨List.mem_of_getElem? (i := 222) (by decide +kernel), List.forall_mem_cons.mpr ⟨List.mem_of_getElem? (i := 224) (by decide +kernel), List.forall_mem_cons.mpr ⟨List.mem_of_getElem? (i := 226) (by decide +kernel), List.forall_mem_cons.mpr ⟨List.mem_of_getElem? (i := 228) (by decide +kernel), fun _ h => absurd h List.not_mem_nil⟩⟩⟩⟩
theorem jws_4 : ∀ w ∈ u_ws (j_on 4) (j_T 4) (j_nf 4), w ∈ lw_tbl := by
  show ∀ w ∈ [u_lay RX4 TX4 0, u_lay RX4 TX4 1], w ∈ lw_tbl
  exact List.forall_mem_cons.mpr ⟨List.mem_of_getElem? (i := 266) (by decide +kernel), List.forall_mem_cons.mpr ⟨List.mem_of_getElem? (i := 268) (by decide +kernel), fun _ h => absurd h List.not_mem_nil⟩⟩
theorem jws_5 : ∀ w ∈ u_ws (j_on 5) (j_T 5) (j_nf 5), w ∈ lw_tbl := by
  show ∀ w ∈ [u_lay RX5 TX5 0, u_lay RX5 TX5 1, u_lay RX5 TX5 2, u_lay RX5 TX5 3, u_lay RX5 TX5 4], w ∈ lw_tbl
  exact List.forall_mem_cons.mpr ⟨List.mem_of_getElem? (i := 198) (by decide +kernel), List.forall_mem_cons.mpr ⟨List.mem_of_getElem? (i := 200) (by decide +kernel), List.forall_mem_cons.mpr ⟨List.mem_of_getElem? (i := 202) (by decide +kernel), List.forall_mem_cons.mpr ⟨List.mem_of_getElem? (i := 204) (by decide +kernel), List.forall_mem_cons.mpr ⟨List.mem_of_getElem? (i := 206) (by decide +kernel), fun _ h => absurd h List.not_mem_nil⟩⟩⟩⟩⟩
theorem jws_6 : ∀ w ∈ u_ws (j_on 6) (j_T 6) (j_nf 6), w ∈ lw_tbl := by
  show ∀ w ∈ [u_lay RX6 TX6 0, u_lay RX6 TX6 1, u_lay RX6 TX6 2, u_lay RX6 TX6 3], w ∈ lw_tbl
  exact List.forall_mem_cons.mpr ⟨List.mem_of_getElem? (i := 244) (by decide +kernel), List.forall_mem_cons.mpr ⟨List.mem_of_getElem? (i := 246) (by decide +kernel), List.forall_mem_cons.mpr ⟨List.mem_of_getElem? (i := 248) (by decide +kernel), List.forall_mem_cons.mpr ⟨List.mem_of_getElem? (i := 250) (by decide +kernel), fun _ h => absurd h List.not_mem_nil⟩⟩⟩⟩
theorem jws_7 : ∀ w ∈ u_ws (j_on 7) (j_T 7) (j_nf 7), w ∈ lw_tbl := by
  show ∀ w ∈ [u_lay RX7 TX7 0, u_lay RX7 TX7 1, u_lay RX7 TX7 2, u_lay RX7 TX7 3, u_lay RX7 TX7 4, u_lay RX7 TX7 5, u_lay RX7 TX7 6, u_lay RX7 TX7 7, u_lay RX7 TX7 8, u_lay RX7 TX7 9, u_lay RX7 TX7 10, u_lay RX7 TX7 11], w ∈ lw_tbl
  exact List.forall_mem_cons.mpr ⟨List.mem_of_getElem? (i := 283) (by decide +kernel), List.forall_mem_cons.mpr ⟨List.mem_of_getElem? (i := 285) (by decide +kernel), List.forall_mem_cons.mpr ⟨List.mem_of_getElem? (i := 287) (by decide +kernel), List.forall_mem_cons.mpr ⟨List.mem_of_getElem? (i := 289) (by decide +kernel), List.forall_mem_cons.mpr ⟨List.mem_of_getElem? (i := 291) (by decide +kernel), List.forall_mem_cons.mpr ⟨List.mem_of_getElem? (i := 293) (by decide +kernel), List.forall_mem_cons.mpr ⟨List.mem_of_getElem? (i := 295) (by decide +kernel), List.forall_mem_cons.mpr ⟨List.mem_of_getElem? (i := 297) (by decide +kernel), List.forall_mem_cons.mpr ⟨List.mem_of_getElem? (i := 299) (by decide +kernel), List.forall_mem_cons.mpr ⟨List.mem_of_getElem? (i := 301) (by decide +kernel), List.forall_mem_cons.mpr ⟨List.mem_of_getElem? (i := 303) (by decide +kernel), List.forall_mem_cons.mpr ⟨List.mem_of_getElem? (i := 305) (by decide +kernel), fun _ h => absurd h List.not_mem_nil⟩⟩⟩⟩⟩⟩⟩⟩⟩⟩⟩⟩
theorem jws_8 : ∀ w ∈ u_ws (j_on 8) (j_T 8) (j_nf 8), w ∈ lw_tbl := by
  show ∀ w ∈ [u_lay RX8 TX8 0, u_lay RX8 TX8 1, u_lay RX8 TX8 2, u_lay RX8 TX8 3, u_lay RX8 TX8 4, u_lay RX8 TX8 5, u_lay RX8 TX8 6, u_lay RX8 TX8 7, u_lay RX8 TX8 8, u_lay RX8 TX8 9, u_lay RX8 TX8 10, u_lay RX8 TX8 11, u_lay RX8 TX8 12, u_lay RX8 TX8 13, u_lay RX8 TX8 14, u_lay RX8 TX8 15, u_lay RX8 TX8 16, u_lay RX8 TX8 17, u_lay RX8 TX8 18, u_lay RX8 TX8 19], w ∈ lw_tbl
  exact List.forall_mem_cons.mpr ⟨List.mem_of_getElem? (i := 999) (by decide +kernel), List.forall_mem_cons.mpr ⟨List.mem_of_getElem? (i := 1001) (by decide +kernel), List.forall_mem_cons.mpr ⟨List.mem_of_getElem? (i := 1003) (by decide +kernel), List.forall_mem_cons.mpr ⟨List.mem_of_getElem? (i := 1005) (by decide +kernel), List.forall_mem_cons.mpr ⟨List.mem_of_getElem? (i := 1007) (by decide +kernel), List.forall_mem_cons.mpr ⟨List.mem_of_getElem? (i := 1009) (by decide +kernel), List.forall_mem_cons.mpr ⟨List.mem_of_getElem? (i := 1011) (by decide +kernel), List.forall_mem_cons.mpr ⟨List.mem_of_getElem? (i := 1013) (by decide +kernel), List.forall_mem_cons.mpr ⟨List.mem_of_getElem? (i := 1015) (by decide +kernel), List.forall_mem_cons.mpr ⟨List.mem_of_getElem? (i := 1017) (by decide +kernel), List.forall_mem_cons.mpr ⟨List.mem_of_getElem? (i := 1019) (by decide +kernel), List.forall_mem_cons.mpr ⟨List.mem_of_getElem? (i := 1021) (by decide +kernel), List.forall_mem_cons.mpr ⟨List.mem_of_getElem? (i := 1023) (by decide +kernel), List.forall_mem_cons.mpr ⟨List.mem_of_getElem? (i := 1025) (by decide +kernel), List.forall_mem_cons.mpr ⟨List.mem_of_getElem? (i := 1027) (by decide +kernel), List.forall_mem_cons.mpr ⟨List.mem_of_getElem? (i := 1029) (by decide +kernel), List.forall_mem_cons.mpr ⟨List.mem_of_getElem? (i := 1031) (by decide +kernel), List.forall_mem_cons.mpr ⟨List.mem_of_getElem? (i := 1033) (by decide +kernel), List.forall_mem_cons.mpr ⟨List.mem_of_getElem? (i := 1035) (by decide +kernel), List.forall_mem_cons.mpr ⟨List.mem_of_getElem? (i := 1037) (by decide +kernel), fun _ h => absurd h List.not_mem_nil⟩⟩⟩⟩⟩⟩⟩⟩⟩⟩⟩⟩⟩⟩⟩⟩⟩⟩⟩⟩
theorem j_wsok : ∀ ci, ci < 9 → ∀ w ∈ u_ws (j_on ci) (j_T ci) (j_nf ci), w ∈ lw_tbl := j_lt9 jws_0 jws_1 jws_2 jws_3 jws_4 jws_5 jws_6 jws_7 jws_8
theorem j_layg (C : String) (T : u_T) (s : Nat) : goodWord (u_lay C T s) = true := by
  unfold u_lay
  split <;> rfl
theorem j_wsW : ∀ ci, ci < 9 → ∀ w ∈ u_ws (j_on ci) (j_T ci) (j_nf ci), w ∈ j_W := fun ci h w hw => by
  refine j_W_of (j_wsok ci h w hw) ?_
  unfold u_ws at hw
  obtain ⟨s, -, rfl⟩ := List.mem_map.mp hw
  exact j_layg _ _ _
def j_fP (q : (Nat × Nat) × (Nat × Nat)) : Prop := (q.2.1 < 9 ∧ q.2.2 < j_nf q.2.1) ∧ Cond.fieldLink (j_on q.1.1) q.1.2 (j_on q.2.1) (j_T q.2.1 q.2.2).2.1 (j_T q.2.1 q.2.2).2.2.1 ∈ lw_tbl
theorem jf_0 : j_fP ((0, 14), (0, 0)) := ⟨⟨by decide, by decide⟩, List.mem_of_getElem? (i := 114) (by decide +kernel)⟩
theorem jf_1 : j_fP ((0, 20), (0, 1)) := ⟨⟨by decide, by decide⟩, List.mem_of_getElem? (i := 117) (by decide +kernel)⟩
theorem jf_2 : j_fP ((1, 14), (1, 0)) := ⟨⟨by decide, by decide⟩, List.mem_of_getElem? (i := 123) (by decide +kernel)⟩
theorem jf_3 : j_fP ((1, 20), (1, 1)) := ⟨⟨by decide, by decide⟩, List.mem_of_getElem? (i := 125) (by decide +kernel)⟩
theorem jf_4 : j_fP ((1, 23), (1, 2)) := ⟨⟨by decide, by decide⟩, List.mem_of_getElem? (i := 127) (by decide +kernel)⟩
theorem jf_5 : j_fP ((1, 26), (1, 3)) := ⟨⟨by decide, by decide⟩, List.mem_of_getElem? (i := 130) (by decide +kernel)⟩
theorem jf_6 : j_fP ((1, 29), (1, 4)) := ⟨⟨by decide, by decide⟩, List.mem_of_getElem? (i := 132) (by decide +kernel)⟩
theorem jf_7 : j_fP ((1, 32), (1, 5)) := ⟨⟨by decide, by decide⟩, List.mem_of_getElem? (i := 134) (by decide +kernel)⟩
theorem jf_8 : j_fP ((1, 35), (1, 6)) := ⟨⟨by decide, by decide⟩, List.mem_of_getElem? (i := 136) (by decide +kernel)⟩
theorem jf_9 : j_fP ((1, 38), (1, 7)) := ⟨⟨by decide, by decide⟩, List.mem_of_getElem? (i := 139) (by decide +kernel)⟩
theorem jf_10 : j_fP ((1, 44), (1, 8)) := ⟨⟨by decide, by decide⟩, List.mem_of_getElem? (i := 142) (by decide +kernel)⟩
theorem jf_11 : j_fP ((1, 48), (1, 9)) := ⟨⟨by decide, by decide⟩, List.mem_of_getElem? (i := 143) (by decide +kernel)⟩
theorem jf_12 : j_fP ((1, 51), (1, 10)) := ⟨⟨by decide, by decide⟩, List.mem_of_getElem? (i := 144) (by decide +kernel)⟩
theorem jf_13 : j_fP ((1, 55), (1, 11)) := ⟨⟨by decide, by decide⟩, List.mem_of_getElem? (i := 146) (by decide +kernel)⟩
theorem jf_14 : j_fP ((1, 58), (1, 12)) := ⟨⟨by decide, by decide⟩, List.mem_of_getElem? (i := 148) (by decide +kernel)⟩
theorem jf_15 : j_fP ((1, 61), (1, 13)) := ⟨⟨by decide, by decide⟩, List.mem_of_getElem? (i := 150) (by decide +kernel)⟩
theorem jf_16 : j_fP ((1, 68), (0, 0)) := ⟨⟨by decide, by decide⟩, List.mem_of_getElem? (i := 115) (by decide +kernel)⟩
theorem jf_17 : j_fP ((2, 7), (2, 1)) := ⟨⟨by decide, by decide⟩, List.mem_of_getElem? (i := 99) (by decide +kernel)⟩
theorem jf_18 : j_fP ((2, 19), (2, 0)) := ⟨⟨by decide, by decide⟩, List.mem_of_getElem? (i := 98) (by decide +kernel)⟩
theorem jf_19 : j_fP ((3, 14), (3, 0)) := ⟨⟨by decide, by decide⟩, List.mem_of_getElem? (i := 217) (by decide +kernel)⟩
theorem jf_20 : j_fP ((3, 20), (3, 1)) := ⟨⟨by decide, by decide⟩, List.mem_of_getElem? (i := 219) (by decide +kernel)⟩
theorem jf_21 : j_fP ((3, 23), (3, 2)) := ⟨⟨by decide, by decide⟩, List.mem_of_getElem? (i := 220) (by decide +kernel)⟩
theorem jf_22 : j_fP ((3, 27), (3, 3)) := ⟨⟨by decide, by decide⟩, List.mem_of_getElem? (i := 221) (by decide +kernel)⟩
theorem jf_23 : j_fP ((4, 14), (4, 0)) := ⟨⟨by decide, by decide⟩, List.mem_of_getElem? (i := 262) (by decide +kernel)⟩
theorem jf_24 : j_fP ((4, 20), (4, 1)) := ⟨⟨by decide, by decide⟩, List.mem_of_getElem? (i := 264) (by decide +kernel)⟩
theorem jf_25 : j_fP ((5, 12), (5, 0)) := ⟨⟨by decide, by decide⟩, List.mem_of_getElem? (i := 193) (by decide +kernel)⟩
theorem jf_26 : j_fP ((5, 23), (5, 1)) := ⟨⟨by decide, by decide⟩, List.mem_of_getElem? (i := 194) (by decide +kernel)⟩
theorem jf_27 : j_fP ((5, 27), (5, 2)) := ⟨⟨by decide, by decide⟩, List.mem_of_getElem? (i := 195) (by decide +kernel)⟩
theorem jf_28 : j_fP ((5, 31), (5, 3)) := ⟨⟨by decide, by decide⟩, List.mem_of_getElem? (i := 196) (by decide +kernel)⟩
theorem jf_29 : j_fP ((5, 34), (5, 4)) := ⟨⟨by decide, by decide⟩, List.mem_of_getElem? (i := 197) (by decide +kernel)⟩
theorem jf_30 : j_fP ((5, 93), (1, 6)) := ⟨⟨by decide, by decide⟩, List.mem_of_getElem? (i := 137) (by decide +kernel)⟩
theorem jf_31 : j_fP ((5, 100), (1, 7)) := ⟨⟨by decide, by decide⟩, List.mem_of_getElem? (i := 140) (by decide +kernel)⟩
theorem jf_32 : j_fP ((5, 123), (1, 2)) := ⟨⟨by decide, by decide⟩, List.mem_of_getElem? (i := 129) (by decide +kernel)⟩
theorem jf_33 : j_fP ((6, 14), (6, 0)) := ⟨⟨by decide, by decide⟩, List.mem_of_getElem? (i := 239) (by decide +kernel)⟩
theorem jf_34 : j_fP ((6, 20), (6, 1)) := ⟨⟨by decide, by decide⟩, List.mem_of_getElem? (i := 241) (by decide +kernel)⟩
theorem jf_35 : j_fP ((6, 24), (6, 2)) := ⟨⟨by decide, by decide⟩, List.mem_of_getElem? (i := 242) (by decide +kernel)⟩
theorem jf_36 : j_fP ((6, 27), (6, 3)) := ⟨⟨by decide, by decide⟩, List.mem_of_getElem? (i := 243) (by decide +kernel)⟩
theorem jf_37 : j_fP ((7, 10), (7, 0)) := ⟨⟨by decide, by decide⟩, List.mem_of_getElem? (i := 271) (by decide +kernel)⟩
theorem jf_38 : j_fP ((7, 21), (7, 1)) := ⟨⟨by decide, by decide⟩, List.mem_of_getElem? (i := 272) (by decide +kernel)⟩
theorem jf_39 : j_fP ((7, 25), (7, 2)) := ⟨⟨by decide, by decide⟩, List.mem_of_getElem? (i := 273) (by decide +kernel)⟩
theorem jf_40 : j_fP ((7, 28), (7, 3)) := ⟨⟨by decide, by decide⟩, List.mem_of_getElem? (i := 274) (by decide +kernel)⟩
theorem jf_41 : j_fP ((7, 31), (7, 4)) := ⟨⟨by decide, by decide⟩, List.mem_of_getElem? (i := 275) (by decide +kernel)⟩
theorem jf_42 : j_fP ((7, 34), (7, 5)) := ⟨⟨by decide, by decide⟩, List.mem_of_getElem? (i := 276) (by decide +kernel)⟩
theorem jf_43 : j_fP ((7, 37), (7, 6)) := ⟨⟨by decide, by decide⟩, List.mem_of_getElem? (i := 277) (by decide +kernel)⟩
theorem jf_44 : j_fP ((7, 44), (7, 7)) := ⟨⟨by decide, by decide⟩, List.mem_of_getElem? (i := 278) (by decide +kernel)⟩
theorem jf_45 : j_fP ((7, 51), (7, 8)) := ⟨⟨by decide, by decide⟩, List.mem_of_getElem? (i := 279) (by decide +kernel)⟩
theorem jf_46 : j_fP ((7, 58), (7, 9)) := ⟨⟨by decide, by decide⟩, List.mem_of_getElem? (i := 280) (by decide +kernel)⟩
theorem jf_47 : j_fP ((7, 65), (7, 10)) := ⟨⟨by decide, by decide⟩, List.mem_of_getElem? (i := 281) (by decide +kernel)⟩
theorem jf_48 : j_fP ((7, 69), (7, 11)) := ⟨⟨by decide, by decide⟩, List.mem_of_getElem? (i := 282) (by decide +kernel)⟩
theorem jf_49 : j_fP ((7, 94), (1, 0)) := ⟨⟨by decide, by decide⟩, List.mem_of_getElem? (i := 124) (by decide +kernel)⟩
theorem jf_50 : j_fP ((7, 100), (1, 1)) := ⟨⟨by decide, by decide⟩, List.mem_of_getElem? (i := 126) (by decide +kernel)⟩
theorem jf_51 : j_fP ((7, 103), (1, 2)) := ⟨⟨by decide, by decide⟩, List.mem_of_getElem? (i := 128) (by decide +kernel)⟩
theorem jf_52 : j_fP ((7, 106), (1, 3)) := ⟨⟨by decide, by decide⟩, List.mem_of_getElem? (i := 131) (by decide +kernel)⟩
theorem jf_53 : j_fP ((7, 109), (1, 4)) := ⟨⟨by decide, by decide⟩, List.mem_of_getElem? (i := 133) (by decide +kernel)⟩
theorem jf_54 : j_fP ((7, 145), (1, 5)) := ⟨⟨by decide, by decide⟩, List.mem_of_getElem? (i := 135) (by decide +kernel)⟩
theorem jf_55 : j_fP ((7, 148), (1, 6)) := ⟨⟨by decide, by decide⟩, List.mem_of_getElem? (i := 138) (by decide +kernel)⟩
theorem jf_56 : j_fP ((7, 151), (1, 7)) := ⟨⟨by decide, by decide⟩, List.mem_of_getElem? (i := 141) (by decide +kernel)⟩
theorem jf_57 : j_fP ((7, 160), (1, 11)) := ⟨⟨by decide, by decide⟩, List.mem_of_getElem? (i := 147) (by decide +kernel)⟩
theorem jf_58 : j_fP ((7, 183), (0, 0)) := ⟨⟨by decide, by decide⟩, List.mem_of_getElem? (i := 116) (by decide +kernel)⟩
theorem jf_59 : j_fP ((7, 188), (3, 0)) := ⟨⟨by decide, by decide⟩, List.mem_of_getElem? (i := 218) (by decide +kernel)⟩
theorem jf_60 : j_fP ((7, 203), (1, 10)) := ⟨⟨by decide, by decide⟩, List.mem_of_getElem? (i := 145) (by decide +kernel)⟩
theorem jf_61 : j_fP ((7, 257), (1, 13)) := ⟨⟨by decide, by decide⟩, List.mem_of_getElem? (i := 151) (by decide +kernel)⟩
theorem jf_62 : j_fP ((7, 267), (6, 0)) := ⟨⟨by decide, by decide⟩, List.mem_of_getElem? (i := 240) (by decide +kernel)⟩
theorem jf_63 : j_fP ((7, 280), (4, 0)) := ⟨⟨by decide, by decide⟩, List.mem_of_getElem? (i := 263) (by decide +kernel)⟩
theorem jf_64 : j_fP ((7, 286), (4, 1)) := ⟨⟨by decide, by decide⟩, List.mem_of_getElem? (i := 265) (by decide +kernel)⟩
theorem jf_65 : j_fP ((7, 309), (1, 12)) := ⟨⟨by decide, by decide⟩, List.mem_of_getElem? (i := 149) (by decide +kernel)⟩
theorem jf_66 : j_fP ((8, 7), (8, 0)) := ⟨⟨by decide, by decide⟩, List.mem_of_getElem? (i := 979) (by decide +kernel)⟩
theorem jf_67 : j_fP ((8, 13), (8, 1)) := ⟨⟨by decide, by decide⟩, List.mem_of_getElem? (i := 980) (by decide +kernel)⟩
theorem jf_68 : j_fP ((8, 16), (8, 3)) := ⟨⟨by decide, by decide⟩, List.mem_of_getElem? (i := 982) (by decide +kernel)⟩
theorem jf_69 : j_fP ((8, 19), (8, 4)) := ⟨⟨by decide, by decide⟩, List.mem_of_getElem? (i := 983) (by decide +kernel)⟩
theorem jf_70 : j_fP ((8, 22), (8, 11)) := ⟨⟨by decide, by decide⟩, List.mem_of_getElem? (i := 990) (by decide +kernel)⟩
theorem jf_71 : j_fP ((8, 25), (8, 12)) := ⟨⟨by decide, by decide⟩, List.mem_of_getElem? (i := 991) (by decide +kernel)⟩
theorem jf_72 : j_fP ((8, 28), (8, 13)) := ⟨⟨by decide, by decide⟩, List.mem_of_getElem? (i := 992) (by decide +kernel)⟩
theorem jf_73 : j_fP ((8, 31), (8, 16)) := ⟨⟨by decide, by decide⟩, List.mem_of_getElem? (i := 995) (by decide +kernel)⟩
theorem jf_74 : j_fP ((8, 34), (8, 17)) := ⟨⟨by decide, by decide⟩, List.mem_of_getElem? (i := 996) (by decide +kernel)⟩
theorem jf_75 : j_fP ((8, 37), (8, 18)) := ⟨⟨by decide, by decide⟩, List.mem_of_getElem? (i := 997) (by decide +kernel)⟩
theorem jf_76 : j_fP ((8, 40), (8, 19)) := ⟨⟨by decide, by decide⟩, List.mem_of_getElem? (i := 998) (by decide +kernel)⟩
theorem jf_77 : j_fP ((8, 48), (8, 6)) := ⟨⟨by decide, by decide⟩, List.mem_of_getElem? (i := 985) (by decide +kernel)⟩
theorem jf_78 : j_fP ((8, 52), (8, 7)) := ⟨⟨by decide, by decide⟩, List.mem_of_getElem? (i := 986) (by decide +kernel)⟩
theorem jf_79 : j_fP ((8, 55), (8, 8)) := ⟨⟨by decide, by decide⟩, List.mem_of_getElem? (i := 987) (by decide +kernel)⟩
theorem jf_80 : j_fP ((8, 58), (8, 5)) := ⟨⟨by decide, by decide⟩, List.mem_of_getElem? (i := 984) (by decide +kernel)⟩
theorem jf_81 : j_fP ((8, 65), (8, 10)) := ⟨⟨by decide, by decide⟩, List.mem_of_getElem? (i := 989) (by decide +kernel)⟩
theorem jf_82 : j_fP ((8, 88), (8, 9)) := ⟨⟨by decide, by decide⟩, List.mem_of_getElem? (i := 988) (by decide +kernel)⟩
theorem jf_83 : j_fP ((8, 220), (8, 14)) := ⟨⟨by decide, by decide⟩, List.mem_of_getElem? (i := 993) (by decide +kernel)⟩
theorem jf_84 : j_fP ((8, 226), (8, 15)) := ⟨⟨by decide, by decide⟩, List.mem_of_getElem? (i := 994) (by decide +kernel)⟩
theorem jf_85 : j_fP ((8, 244), (8, 2)) := ⟨⟨by decide, by decide⟩, List.mem_of_getElem? (i := 981) (by decide +kernel)⟩
set_option maxRecDepth 100000 in
theorem j_fok : ∀ q ∈ j_fl, j_fP q := List.forall_mem_cons.mpr ⟨jf_0, List.forall_mem_cons.mpr ⟨jf_1, List.forall_mem_cons.mpr ⟨jf_2, List.forall_mem_cons.mpr ⟨jf_3, List.forall_mem_cons.mpr ⟨jf_4, List.forall_mem_cons.mpr ⟨jf_5, List.forall_mem_cons.mpr ⟨jf_6, List.forall_mem_cons.mpr ⟨jf_7, List.forall_mem_cons.mpr ⟨jf_8, List.forall_mem_cons.mpr ⟨jf_9, List.forall_mem_cons.mpr ⟨jf_10, List.forall_mem_cons.mpr ⟨jf_11, List.forall_mem_cons.mpr ⟨jf_12, List.forall_mem_cons.mpr ⟨jf_13, List.forall_mem_cons.mpr ⟨jf_14, List.forall_mem_cons.mpr ⟨jf_15, List.forall_mem_cons.mpr ⟨jf_16, List.forall_mem_cons.mpr ⟨jf_17, List.forall_mem_cons.mpr ⟨jf_18, List.forall_mem_cons.mpr ⟨jf_19, List.forall_mem_cons.mpr ⟨jf_20, List.forall_mem_cons.mpr ⟨jf_21, List.forall_mem_cons.mpr ⟨jf_22, List.forall_mem_cons.mpr ⟨jf_23, List.forall_mem_cons.mpr ⟨jf_24, List.forall_mem_cons.mpr ⟨jf_25, List.forall_mem_cons.mpr ⟨jf_26, List.forall_mem_cons.mpr ⟨jf_27, List.forall_mem_cons.mpr ⟨jf_28, List.forall_mem_cons.mpr ⟨jf_29, List.forall_mem_cons.mpr ⟨jf_30, List.forall_mem_cons.mpr ⟨jf_31, List.forall_mem_cons.mpr ⟨jf_32, List.forall_mem_cons.mpr ⟨jf_33, List.forall_mem_cons.mpr ⟨jf_34, List.forall_mem_cons.mpr ⟨jf_35, List.forall_mem_cons.mpr ⟨jf_36, List.forall_mem_cons.mpr ⟨jf_37, List.forall_mem_cons.mpr ⟨jf_38, List.forall_mem_cons.mpr ⟨jf_39, List.forall_mem_cons.mpr ⟨jf_40, List.forall_mem_cons.mpr ⟨jf_41, List.forall_mem_cons.mpr ⟨jf_42, List.forall_mem_cons.mpr ⟨jf_43, List.forall_mem_cons.mpr ⟨jf_44, List.forall_mem_cons.mpr ⟨jf_45, List.forall_mem_cons.mpr ⟨jf_46, List.forall_mem_cons.mpr ⟨jf_47, List.forall_mem_cons.mpr ⟨jf_48, List.forall_mem_cons.mpr ⟨jf_49, List.forall_mem_cons.mpr ⟨jf_50, List.forall_mem_cons.mpr ⟨jf_51, List.forall_mem_cons.mpr ⟨jf_52, List.forall_mem_cons.mpr ⟨jf_53, List.forall_mem_cons.mpr ⟨jf_54, List.forall_mem_cons.mpr ⟨jf_55, List.forall_mem_cons.mpr ⟨jf_56, List.forall_mem_cons.mpr ⟨jf_57, List.forall_mem_cons.mpr ⟨jf_58, List.forall_mem_cons.mpr ⟨jf_59, List.forall_mem_cons.mpr ⟨jf_60, List.forall_mem_cons.mpr ⟨jf_61, List.forall_mem_cons.mpr ⟨jf_62, List.forall_mem_cons.mpr ⟨jf_63, List.forall_mem_cons.mpr ⟨jf_64, List.forall_mem_cons.mpr ⟨jf_65, List.forall_mem_cons.mpr ⟨jf_66, List.forall_mem_cons.mpr ⟨jf_67, List.forall_mem_cons.mpr ⟨jf_68, List.forall_mem_cons.mpr ⟨jf_69, List.forall_mem_cons.mpr ⟨jf_70, List.forall_mem_cons.mpr ⟨jf_71, List.forall_mem_cons.mpr ⟨jf_72, List.forall_mem_cons.mpr ⟨jf_73, List.forall_mem_cons.mpr ⟨jf_74, List.forall_mem_cons.mpr ⟨jf_75, List.forall_mem_cons.mpr ⟨jf_76, List.forall_mem_cons.mpr ⟨jf_77, List.forall_mem_cons.mpr ⟨jf_78, List.forall_mem_cons.mpr ⟨jf_79, List.forall_mem_cons.mpr ⟨jf_80, List.forall_mem_cons.mpr ⟨jf_81, List.forall_mem_cons.mpr ⟨jf_82, List.forall_mem_cons.mpr ⟨jf_83, List.forall_mem_cons.mpr ⟨jf_84, List.forall_mem_cons.mpr ⟨jf_85, fun _ h => absurd h List.not_mem_nil⟩⟩⟩⟩⟩⟩⟩⟩⟩⟩⟩⟩⟩⟩⟩⟩⟩⟩⟩⟩⟩⟩⟩⟩⟩⟩⟩⟩⟩⟩⟩⟩⟩⟩⟩⟩⟩⟩⟩⟩⟩⟩⟩⟩⟩⟩⟩⟩⟩⟩⟩⟩⟩⟩⟩⟩⟩⟩⟩⟩⟩⟩⟩⟩⟩⟩⟩⟩⟩⟩⟩⟩⟩⟩⟩⟩⟩⟩⟩⟩⟩⟩⟩⟩⟩⟩
def j_nest : List (Nat × Nat × Nat) := [(1, 43, 0), (1, 93, 133), (1, 117, 138), (1, 134, 136), (1, 143, 134), (1, 146, 137), (5, 11, 4), (5, 86, 140), (5, 112, 139), (5, 116, 133), (6, 44, 130), (7, 9, 4), (7, 43, 58), (7, 50, 43), (7, 57, 73), (7, 64, 54)]
def j_cP (q : (Nat × Nat) × (Nat × Nat)) : Prop := match q.2.1 with
  | 1001 => Cond.methodLink (j_on q.1.1) q.1.2 objectInit ∈ lw_tbl
  | 1002 => Cond.methodLink (j_on q.1.1) q.1.2 arraycopyName ∈ lw_tbl
  | 1003 => Cond.methodLink (j_on q.1.1) q.1.2 yX3_nameOf ∈ lw_tbl
  | 1004 => Cond.methodLink (j_on q.1.1) q.1.2 Lib.Math.max.name ∈ lw_tbl
  | 1005 => Cond.methodLink (j_on q.1.1) q.1.2 Lib.Math.min.name ∈ lw_tbl
  | c => ∃ m, j_m c = some m ∧ (if q.2.2 = 0 then Cond.methodLink (j_on q.1.1) q.1.2 (j_y m) ∈ lw_tbl else (q.1.1, q.1.2, c) ∈ j_nest)
theorem jc_0 : j_cP ((0, 3), (1001, 0)) := List.mem_of_getElem? (i := 111) (by decide +kernel)
theorem jc_1 : j_cP ((0, 11), (31, 0)) := ⟨jm_31, rfl, List.mem_of_getElem? (i := 113) (by decide +kernel)⟩
theorem jc_2 : j_cP ((0, 23), (32, 0)) := ⟨jm_32, rfl, List.mem_of_getElem? (i := 613) (by decide +kernel)⟩
theorem jc_3 : j_cP ((0, 27), (38, 0)) := ⟨jm_38, rfl, List.mem_of_getElem? (i := 618) (by decide +kernel)⟩
theorem jc_4 : j_cP ((0, 30), (33, 0)) := ⟨jm_33, rfl, List.mem_of_getElem? (i := 619) (by decide +kernel)⟩
theorem jc_5 : j_cP ((0, 34), (36, 0)) := ⟨jm_36, rfl, List.mem_of_getElem? (i := 620) (by decide +kernel)⟩
theorem jc_6 : j_cP ((0, 38), (37, 0)) := ⟨jm_37, rfl, List.mem_of_getElem? (i := 621) (by decide +kernel)⟩
theorem jc_7 : j_cP ((0, 41), (3, 0)) := ⟨jm_3, rfl, List.mem_of_getElem? (i := 625) (by decide +kernel)⟩
theorem jc_8 : j_cP ((1, 3), (1001, 0)) := List.mem_of_getElem? (i := 88) (by decide +kernel)
theorem jc_9 : j_cP ((1, 11), (31, 0)) := ⟨jm_31, rfl, List.mem_of_getElem? (i := 91) (by decide +kernel)⟩
theorem jc_10 : j_cP ((1, 43), (0, 1)) := ⟨jm_0, rfl, by decide⟩
theorem jc_11 : j_cP ((1, 64), (41, 0)) := ⟨jm_41, rfl, List.mem_of_getElem? (i := 764) (by decide +kernel)⟩
theorem jc_12 : j_cP ((1, 71), (32, 0)) := ⟨jm_32, rfl, List.mem_of_getElem? (i := 338) (by decide +kernel)⟩
theorem jc_13 : j_cP ((1, 75), (6, 0)) := ⟨jm_6, rfl, List.mem_of_getElem? (i := 350) (by decide +kernel)⟩
theorem jc_14 : j_cP ((1, 78), (7, 0)) := ⟨jm_7, rfl, List.mem_of_getElem? (i := 363) (by decide +kernel)⟩
theorem jc_15 : j_cP ((1, 81), (36, 0)) := ⟨jm_36, rfl, List.mem_of_getElem? (i := 346) (by decide +kernel)⟩
theorem jc_16 : j_cP ((1, 85), (33, 0)) := ⟨jm_33, rfl, List.mem_of_getElem? (i := 371) (by decide +kernel)⟩
theorem jc_17 : j_cP ((1, 89), (12, 0)) := ⟨jm_12, rfl, List.mem_of_getElem? (i := 367) (by decide +kernel)⟩
theorem jc_18 : j_cP ((1, 93), (133, 1)) := ⟨jm_133, rfl, by decide⟩
theorem jc_19 : j_cP ((1, 96), (15, 0)) := ⟨jm_15, rfl, List.mem_of_getElem? (i := 608) (by decide +kernel)⟩
theorem jc_20 : j_cP ((1, 100), (1, 0)) := ⟨jm_1, rfl, List.mem_of_getElem? (i := 609) (by decide +kernel)⟩
theorem jc_21 : j_cP ((1, 104), (2, 0)) := ⟨jm_2, rfl, List.mem_of_getElem? (i := 614) (by decide +kernel)⟩
theorem jc_22 : j_cP ((1, 108), (1005, 0)) := List.mem_of_getElem? (i := 628) (by decide +kernel)
theorem jc_23 : j_cP ((1, 114), (1004, 0)) := List.mem_of_getElem? (i := 629) (by decide +kernel)
theorem jc_24 : j_cP ((1, 117), (138, 1)) := ⟨jm_138, rfl, by decide⟩
theorem jc_25 : j_cP ((1, 120), (16, 0)) := ⟨jm_16, rfl, List.mem_of_getElem? (i := 644) (by decide +kernel)⟩
theorem jc_26 : j_cP ((1, 124), (17, 0)) := ⟨jm_17, rfl, List.mem_of_getElem? (i := 654) (by decide +kernel)⟩
theorem jc_27 : j_cP ((1, 127), (34, 0)) := ⟨jm_34, rfl, List.mem_of_getElem? (i := 655) (by decide +kernel)⟩
theorem jc_28 : j_cP ((1, 131), (20, 0)) := ⟨jm_20, rfl, List.mem_of_getElem? (i := 656) (by decide +kernel)⟩
theorem jc_29 : j_cP ((1, 134), (136, 1)) := ⟨jm_136, rfl, by decide⟩
theorem jc_30 : j_cP ((1, 137), (22, 0)) := ⟨jm_22, rfl, List.mem_of_getElem? (i := 674) (by decide +kernel)⟩
theorem jc_31 : j_cP ((1, 140), (23, 0)) := ⟨jm_23, rfl, List.mem_of_getElem? (i := 678) (by decide +kernel)⟩
theorem jc_32 : j_cP ((1, 143), (134, 1)) := ⟨jm_134, rfl, by decide⟩
theorem jc_33 : j_cP ((1, 146), (137, 1)) := ⟨jm_137, rfl, by decide⟩
theorem jc_34 : j_cP ((1, 149), (25, 0)) := ⟨jm_25, rfl, List.mem_of_getElem? (i := 700) (by decide +kernel)⟩
theorem jc_35 : j_cP ((1, 152), (19, 0)) := ⟨jm_19, rfl, List.mem_of_getElem? (i := 705) (by decide +kernel)⟩
theorem jc_36 : j_cP ((1, 156), (18, 0)) := ⟨jm_18, rfl, List.mem_of_getElem? (i := 832) (by decide +kernel)⟩
theorem jc_37 : j_cP ((1, 159), (27, 0)) := ⟨jm_27, rfl, List.mem_of_getElem? (i := 828) (by decide +kernel)⟩
theorem jc_38 : j_cP ((1, 162), (30, 0)) := ⟨jm_30, rfl, List.mem_of_getElem? (i := 816) (by decide +kernel)⟩
theorem jc_39 : j_cP ((2, 1), (1001, 0)) := List.mem_of_getElem? (i := 94) (by decide +kernel)
theorem jc_40 : j_cP ((2, 13), (1004, 0)) := List.mem_of_getElem? (i := 95) (by decide +kernel)
theorem jc_41 : j_cP ((2, 23), (33, 0)) := ⟨jm_33, rfl, List.mem_of_getElem? (i := 380) (by decide +kernel)⟩
theorem jc_42 : j_cP ((2, 27), (34, 0)) := ⟨jm_34, rfl, List.mem_of_getElem? (i := 381) (by decide +kernel)⟩
theorem jc_43 : j_cP ((2, 31), (38, 0)) := ⟨jm_38, rfl, List.mem_of_getElem? (i := 907) (by decide +kernel)⟩
theorem jc_44 : j_cP ((2, 34), (36, 0)) := ⟨jm_36, rfl, List.mem_of_getElem? (i := 908) (by decide +kernel)⟩
theorem jc_45 : j_cP ((2, 38), (1005, 0)) := List.mem_of_getElem? (i := 591) (by decide +kernel)
theorem jc_46 : j_cP ((2, 41), (42, 0)) := ⟨jm_42, rfl, List.mem_of_getElem? (i := 592) (by decide +kernel)⟩
theorem jc_47 : j_cP ((2, 45), (1002, 0)) := List.mem_of_getElem? (i := 596) (by decide +kernel)
theorem jc_48 : j_cP ((3, 3), (1001, 0)) := List.mem_of_getElem? (i := 214) (by decide +kernel)
theorem jc_49 : j_cP ((3, 11), (31, 0)) := ⟨jm_31, rfl, List.mem_of_getElem? (i := 216) (by decide +kernel)⟩
theorem jc_50 : j_cP ((3, 30), (38, 0)) := ⟨jm_38, rfl, List.mem_of_getElem? (i := 455) (by decide +kernel)⟩
theorem jc_51 : j_cP ((3, 33), (45, 0)) := ⟨jm_45, rfl, List.mem_of_getElem? (i := 459) (by decide +kernel)⟩
theorem jc_52 : j_cP ((3, 37), (32, 0)) := ⟨jm_32, rfl, List.mem_of_getElem? (i := 471) (by decide +kernel)⟩
theorem jc_53 : j_cP ((3, 41), (46, 0)) := ⟨jm_46, rfl, List.mem_of_getElem? (i := 463) (by decide +kernel)⟩
theorem jc_54 : j_cP ((3, 45), (50, 0)) := ⟨jm_50, rfl, List.mem_of_getElem? (i := 467) (by decide +kernel)⟩
theorem jc_55 : j_cP ((3, 48), (53, 0)) := ⟨jm_53, rfl, List.mem_of_getElem? (i := 579) (by decide +kernel)⟩
theorem jc_56 : j_cP ((3, 52), (36, 0)) := ⟨jm_36, rfl, List.mem_of_getElem? (i := 480) (by decide +kernel)⟩
theorem jc_57 : j_cP ((3, 55), (52, 0)) := ⟨jm_52, rfl, List.mem_of_getElem? (i := 473) (by decide +kernel)⟩
theorem jc_58 : j_cP ((3, 58), (49, 0)) := ⟨jm_49, rfl, List.mem_of_getElem? (i := 476) (by decide +kernel)⟩
theorem jc_59 : j_cP ((3, 61), (47, 0)) := ⟨jm_47, rfl, List.mem_of_getElem? (i := 481) (by decide +kernel)⟩
theorem jc_60 : j_cP ((3, 64), (48, 0)) := ⟨jm_48, rfl, List.mem_of_getElem? (i := 485) (by decide +kernel)⟩
theorem jc_61 : j_cP ((3, 67), (1003, 0)) := List.mem_of_getElem? (i := 489) (by decide +kernel)
theorem jc_62 : j_cP ((3, 70), (33, 0)) := ⟨jm_33, rfl, List.mem_of_getElem? (i := 472) (by decide +kernel)⟩
theorem jc_63 : j_cP ((4, 3), (1001, 0)) := List.mem_of_getElem? (i := 259) (by decide +kernel)
theorem jc_64 : j_cP ((4, 11), (31, 0)) := ⟨jm_31, rfl, List.mem_of_getElem? (i := 261) (by decide +kernel)⟩
theorem jc_65 : j_cP ((4, 24), (39, 0)) := ⟨jm_39, rfl, List.mem_of_getElem? (i := 903) (by decide +kernel)⟩
theorem jc_66 : j_cP ((4, 27), (34, 0)) := ⟨jm_34, rfl, List.mem_of_getElem? (i := 921) (by decide +kernel)⟩
theorem jc_67 : j_cP ((5, 3), (1001, 0)) := List.mem_of_getElem? (i := 188) (by decide +kernel)
theorem jc_68 : j_cP ((5, 11), (4, 1)) := ⟨jm_4, rfl, by decide⟩
theorem jc_69 : j_cP ((5, 20), (31, 0)) := ⟨jm_31, rfl, List.mem_of_getElem? (i := 192) (by decide +kernel)⟩
theorem jc_70 : j_cP ((5, 37), (7, 0)) := ⟨jm_7, rfl, List.mem_of_getElem? (i := 719) (by decide +kernel)⟩
theorem jc_71 : j_cP ((5, 41), (12, 0)) := ⟨jm_12, rfl, List.mem_of_getElem? (i := 720) (by decide +kernel)⟩
theorem jc_72 : j_cP ((5, 45), (18, 0)) := ⟨jm_18, rfl, List.mem_of_getElem? (i := 721) (by decide +kernel)⟩
theorem jc_73 : j_cP ((5, 48), (17, 0)) := ⟨jm_17, rfl, List.mem_of_getElem? (i := 725) (by decide +kernel)⟩
theorem jc_74 : j_cP ((5, 52), (38, 0)) := ⟨jm_38, rfl, List.mem_of_getElem? (i := 734) (by decide +kernel)⟩
theorem jc_75 : j_cP ((5, 55), (1004, 0)) := List.mem_of_getElem? (i := 735) (by decide +kernel)
theorem jc_76 : j_cP ((5, 60), (36, 0)) := ⟨jm_36, rfl, List.mem_of_getElem? (i := 736) (by decide +kernel)⟩
theorem jc_77 : j_cP ((5, 64), (32, 0)) := ⟨jm_32, rfl, List.mem_of_getElem? (i := 737) (by decide +kernel)⟩
theorem jc_78 : j_cP ((5, 67), (224, 0)) := ⟨jm_224, rfl, List.mem_of_getElem? (i := 738) (by decide +kernel)⟩
theorem jc_79 : j_cP ((5, 73), (61, 0)) := ⟨jm_61, rfl, List.mem_of_getElem? (i := 744) (by decide +kernel)⟩
theorem jc_80 : j_cP ((5, 76), (33, 0)) := ⟨jm_33, rfl, List.mem_of_getElem? (i := 748) (by decide +kernel)⟩
theorem jc_81 : j_cP ((5, 79), (5, 0)) := ⟨jm_5, rfl, List.mem_of_getElem? (i := 760) (by decide +kernel)⟩
theorem jc_82 : j_cP ((5, 83), (6, 0)) := ⟨jm_6, rfl, List.mem_of_getElem? (i := 765) (by decide +kernel)⟩
theorem jc_83 : j_cP ((5, 86), (140, 1)) := ⟨jm_140, rfl, by decide⟩
theorem jc_84 : j_cP ((5, 89), (64, 0)) := ⟨jm_64, rfl, List.mem_of_getElem? (i := 767) (by decide +kernel)⟩
theorem jc_85 : j_cP ((5, 96), (34, 0)) := ⟨jm_34, rfl, List.mem_of_getElem? (i := 771) (by decide +kernel)⟩
theorem jc_86 : j_cP ((5, 103), (63, 0)) := ⟨jm_63, rfl, List.mem_of_getElem? (i := 772) (by decide +kernel)⟩
theorem jc_87 : j_cP ((5, 106), (65, 0)) := ⟨jm_65, rfl, List.mem_of_getElem? (i := 776) (by decide +kernel)⟩
theorem jc_88 : j_cP ((5, 109), (19, 0)) := ⟨jm_19, rfl, List.mem_of_getElem? (i := 781) (by decide +kernel)⟩
theorem jc_89 : j_cP ((5, 112), (139, 1)) := ⟨jm_139, rfl, by decide⟩
theorem jc_90 : j_cP ((5, 116), (133, 1)) := ⟨jm_133, rfl, by decide⟩
theorem jc_91 : j_cP ((5, 119), (67, 0)) := ⟨jm_67, rfl, List.mem_of_getElem? (i := 792) (by decide +kernel)⟩
theorem jc_92 : j_cP ((5, 126), (69, 0)) := ⟨jm_69, rfl, List.mem_of_getElem? (i := 804) (by decide +kernel)⟩
theorem jc_93 : j_cP ((5, 129), (21, 0)) := ⟨jm_21, rfl, List.mem_of_getElem? (i := 841) (by decide +kernel)⟩
theorem jc_94 : j_cP ((5, 132), (27, 0)) := ⟨jm_27, rfl, List.mem_of_getElem? (i := 842) (by decide +kernel)⟩
theorem jc_95 : j_cP ((5, 135), (26, 0)) := ⟨jm_26, rfl, List.mem_of_getElem? (i := 851) (by decide +kernel)⟩
theorem jc_96 : j_cP ((5, 138), (22, 0)) := ⟨jm_22, rfl, List.mem_of_getElem? (i := 855) (by decide +kernel)⟩
theorem jc_97 : j_cP ((5, 141), (14, 0)) := ⟨jm_14, rfl, List.mem_of_getElem? (i := 960) (by decide +kernel)⟩
theorem jc_98 : j_cP ((6, 3), (1001, 0)) := List.mem_of_getElem? (i := 236) (by decide +kernel)
theorem jc_99 : j_cP ((6, 11), (31, 0)) := ⟨jm_31, rfl, List.mem_of_getElem? (i := 238) (by decide +kernel)⟩
theorem jc_100 : j_cP ((6, 30), (38, 0)) := ⟨jm_38, rfl, List.mem_of_getElem? (i := 868) (by decide +kernel)⟩
theorem jc_101 : j_cP ((6, 33), (76, 0)) := ⟨jm_76, rfl, List.mem_of_getElem? (i := 873) (by decide +kernel)⟩
theorem jc_102 : j_cP ((6, 37), (77, 0)) := ⟨jm_77, rfl, List.mem_of_getElem? (i := 877) (by decide +kernel)⟩
theorem jc_103 : j_cP ((6, 41), (78, 0)) := ⟨jm_78, rfl, List.mem_of_getElem? (i := 880) (by decide +kernel)⟩
theorem jc_104 : j_cP ((6, 44), (130, 1)) := ⟨jm_130, rfl, by decide⟩
theorem jc_105 : j_cP ((6, 48), (36, 0)) := ⟨jm_36, rfl, List.mem_of_getElem? (i := 886) (by decide +kernel)⟩
theorem jc_106 : j_cP ((7, 1), (1001, 0)) := List.mem_of_getElem? (i := 80) (by decide +kernel)
theorem jc_107 : j_cP ((7, 9), (4, 1)) := ⟨jm_4, rfl, by decide⟩
theorem jc_108 : j_cP ((7, 18), (31, 0)) := ⟨jm_31, rfl, List.mem_of_getElem? (i := 182) (by decide +kernel)⟩
theorem jc_109 : j_cP ((7, 43), (58, 1)) := ⟨jm_58, rfl, by decide⟩
theorem jc_110 : j_cP ((7, 50), (43, 1)) := ⟨jm_43, rfl, by decide⟩
theorem jc_111 : j_cP ((7, 57), (73, 1)) := ⟨jm_73, rfl, by decide⟩
theorem jc_112 : j_cP ((7, 64), (54, 1)) := ⟨jm_54, rfl, by decide⟩
theorem jc_113 : j_cP ((7, 72), (123, 0)) := ⟨jm_123, rfl, List.mem_of_getElem? (i := 312) (by decide +kernel)⟩
theorem jc_114 : j_cP ((7, 76), (124, 0)) := ⟨jm_124, rfl, List.mem_of_getElem? (i := 318) (by decide +kernel)⟩
theorem jc_115 : j_cP ((7, 79), (119, 0)) := ⟨jm_119, rfl, List.mem_of_getElem? (i := 321) (by decide +kernel)⟩
theorem jc_116 : j_cP ((7, 83), (6, 0)) := ⟨jm_6, rfl, List.mem_of_getElem? (i := 334) (by decide +kernel)⟩
theorem jc_117 : j_cP ((7, 87), (10, 0)) := ⟨jm_10, rfl, List.mem_of_getElem? (i := 342) (by decide +kernel)⟩
theorem jc_118 : j_cP ((7, 91), (8, 0)) := ⟨jm_8, rfl, List.mem_of_getElem? (i := 355) (by decide +kernel)⟩
theorem jc_119 : j_cP ((7, 97), (33, 0)) := ⟨jm_33, rfl, List.mem_of_getElem? (i := 325) (by decide +kernel)⟩
theorem jc_120 : j_cP ((7, 112), (13, 0)) := ⟨jm_13, rfl, List.mem_of_getElem? (i := 359) (by decide +kernel)⟩
theorem jc_121 : j_cP ((7, 115), (35, 0)) := ⟨jm_35, rfl, List.mem_of_getElem? (i := 376) (by decide +kernel)⟩
theorem jc_122 : j_cP ((7, 118), (125, 0)) := ⟨jm_125, rfl, List.mem_of_getElem? (i := 382) (by decide +kernel)⟩
theorem jc_123 : j_cP ((7, 121), (126, 0)) := ⟨jm_126, rfl, List.mem_of_getElem? (i := 385) (by decide +kernel)⟩
theorem jc_124 : j_cP ((7, 124), (34, 0)) := ⟨jm_34, rfl, List.mem_of_getElem? (i := 329) (by decide +kernel)⟩
theorem jc_125 : j_cP ((7, 128), (122, 0)) := ⟨jm_122, rfl, List.mem_of_getElem? (i := 315) (by decide +kernel)⟩
theorem jc_126 : j_cP ((7, 132), (129, 0)) := ⟨jm_129, rfl, List.mem_of_getElem? (i := 396) (by decide +kernel)⟩
theorem jc_127 : j_cP ((7, 136), (7, 0)) := ⟨jm_7, rfl, List.mem_of_getElem? (i := 408) (by decide +kernel)⟩
theorem jc_128 : j_cP ((7, 139), (11, 0)) := ⟨jm_11, rfl, List.mem_of_getElem? (i := 409) (by decide +kernel)⟩
theorem jc_129 : j_cP ((7, 142), (9, 0)) := ⟨jm_9, rfl, List.mem_of_getElem? (i := 417) (by decide +kernel)⟩
theorem jc_130 : j_cP ((7, 154), (133, 0)) := ⟨jm_133, rfl, List.mem_of_getElem? (i := 421) (by decide +kernel)⟩
theorem jc_131 : j_cP ((7, 157), (132, 0)) := ⟨jm_132, rfl, List.mem_of_getElem? (i := 428) (by decide +kernel)⟩
theorem jc_132 : j_cP ((7, 163), (32, 0)) := ⟨jm_32, rfl, List.mem_of_getElem? (i := 442) (by decide +kernel)⟩
theorem jc_133 : j_cP ((7, 166), (36, 0)) := ⟨jm_36, rfl, List.mem_of_getElem? (i := 443) (by decide +kernel)⟩
theorem jc_134 : j_cP ((7, 169), (127, 0)) := ⟨jm_127, rfl, List.mem_of_getElem? (i := 448) (by decide +kernel)⟩
theorem jc_135 : j_cP ((7, 172), (44, 0)) := ⟨jm_44, rfl, List.mem_of_getElem? (i := 451) (by decide +kernel)⟩
theorem jc_136 : j_cP ((7, 176), (38, 0)) := ⟨jm_38, rfl, List.mem_of_getElem? (i := 582) (by decide +kernel)⟩
theorem jc_137 : j_cP ((7, 179), (15, 0)) := ⟨jm_15, rfl, List.mem_of_getElem? (i := 583) (by decide +kernel)⟩
theorem jc_138 : j_cP ((7, 189), (41, 0)) := ⟨jm_41, rfl, List.mem_of_getElem? (i := 587) (by decide +kernel)⟩
theorem jc_139 : j_cP ((7, 193), (16, 0)) := ⟨jm_16, rfl, List.mem_of_getElem? (i := 604) (by decide +kernel)⟩
theorem jc_140 : j_cP ((7, 197), (17, 0)) := ⟨jm_17, rfl, List.mem_of_getElem? (i := 634) (by decide +kernel)⟩
theorem jc_141 : j_cP ((7, 200), (19, 0)) := ⟨jm_19, rfl, List.mem_of_getElem? (i := 650) (by decide +kernel)⟩
theorem jc_142 : j_cP ((7, 206), (21, 0)) := ⟨jm_21, rfl, List.mem_of_getElem? (i := 670) (by decide +kernel)⟩
theorem jc_143 : j_cP ((7, 209), (14, 0)) := ⟨jm_14, rfl, List.mem_of_getElem? (i := 688) (by decide +kernel)⟩
theorem jc_144 : j_cP ((7, 212), (24, 0)) := ⟨jm_24, rfl, List.mem_of_getElem? (i := 696) (by decide +kernel)⟩
theorem jc_145 : j_cP ((7, 215), (22, 0)) := ⟨jm_22, rfl, List.mem_of_getElem? (i := 706) (by decide +kernel)⟩
theorem jc_146 : j_cP ((7, 218), (120, 0)) := ⟨jm_120, rfl, List.mem_of_getElem? (i := 711) (by decide +kernel)⟩
theorem jc_147 : j_cP ((7, 221), (59, 0)) := ⟨jm_59, rfl, List.mem_of_getElem? (i := 715) (by decide +kernel)⟩
theorem jc_148 : j_cP ((7, 225), (60, 0)) := ⟨jm_60, rfl, List.mem_of_getElem? (i := 730) (by decide +kernel)⟩
theorem jc_149 : j_cP ((7, 229), (128, 0)) := ⟨jm_128, rfl, List.mem_of_getElem? (i := 753) (by decide +kernel)⟩
theorem jc_150 : j_cP ((7, 232), (62, 0)) := ⟨jm_62, rfl, List.mem_of_getElem? (i := 756) (by decide +kernel)⟩
theorem jc_151 : j_cP ((7, 235), (65, 0)) := ⟨jm_65, rfl, List.mem_of_getElem? (i := 782) (by decide +kernel)⟩
theorem jc_152 : j_cP ((7, 238), (66, 0)) := ⟨jm_66, rfl, List.mem_of_getElem? (i := 787) (by decide +kernel)⟩
theorem jc_153 : j_cP ((7, 242), (68, 0)) := ⟨jm_68, rfl, List.mem_of_getElem? (i := 800) (by decide +kernel)⟩
theorem jc_154 : j_cP ((7, 245), (29, 0)) := ⟨jm_29, rfl, List.mem_of_getElem? (i := 812) (by decide +kernel)⟩
theorem jc_155 : j_cP ((7, 248), (28, 0)) := ⟨jm_28, rfl, List.mem_of_getElem? (i := 824) (by decide +kernel)⟩
theorem jc_156 : j_cP ((7, 251), (70, 0)) := ⟨jm_70, rfl, List.mem_of_getElem? (i := 837) (by decide +kernel)⟩
theorem jc_157 : j_cP ((7, 254), (71, 0)) := ⟨jm_71, rfl, List.mem_of_getElem? (i := 847) (by decide +kernel)⟩
theorem jc_158 : j_cP ((7, 260), (74, 0)) := ⟨jm_74, rfl, List.mem_of_getElem? (i := 864) (by decide +kernel)⟩
theorem jc_159 : j_cP ((7, 264), (75, 0)) := ⟨jm_75, rfl, List.mem_of_getElem? (i := 869) (by decide +kernel)⟩
theorem jc_160 : j_cP ((7, 270), (121, 0)) := ⟨jm_121, rfl, List.mem_of_getElem? (i := 895) (by decide +kernel)⟩
theorem jc_161 : j_cP ((7, 274), (56, 0)) := ⟨jm_56, rfl, List.mem_of_getElem? (i := 899) (by decide +kernel)⟩
theorem jc_162 : j_cP ((7, 276), (55, 0)) := ⟨jm_55, rfl, List.mem_of_getElem? (i := 913) (by decide +kernel)⟩
theorem jc_163 : j_cP ((7, 283), (57, 0)) := ⟨jm_57, rfl, List.mem_of_getElem? (i := 917) (by decide +kernel)⟩
theorem jc_164 : j_cP ((7, 289), (42, 0)) := ⟨jm_42, rfl, List.mem_of_getElem? (i := 926) (by decide +kernel)⟩
theorem jc_165 : j_cP ((7, 293), (1005, 0)) := List.mem_of_getElem? (i := 931) (by decide +kernel)
theorem jc_166 : j_cP ((7, 298), (131, 0)) := ⟨jm_131, rfl, List.mem_of_getElem? (i := 936) (by decide +kernel)⟩
theorem jc_167 : j_cP ((7, 302), (5, 0)) := ⟨jm_5, rfl, List.mem_of_getElem? (i := 943) (by decide +kernel)⟩
theorem jc_168 : j_cP ((7, 305), (72, 0)) := ⟨jm_72, rfl, List.mem_of_getElem? (i := 956) (by decide +kernel)⟩
theorem jc_169 : j_cP ((7, 312), (40, 0)) := ⟨jm_40, rfl, List.mem_of_getElem? (i := 965) (by decide +kernel)⟩
theorem jc_170 : j_cP ((7, 316), (130, 0)) := ⟨jm_130, rfl, List.mem_of_getElem? (i := 399) (by decide +kernel)⟩
theorem jc_171 : j_cP ((7, 323), (139, 0)) := ⟨jm_139, rfl, List.mem_of_getElem? (i := 431) (by decide +kernel)⟩
theorem jc_172 : j_cP ((7, 326), (140, 0)) := ⟨jm_140, rfl, List.mem_of_getElem? (i := 663) (by decide +kernel)⟩
theorem jc_173 : j_cP ((7, 329), (135, 0)) := ⟨jm_135, rfl, List.mem_of_getElem? (i := 641) (by decide +kernel)⟩
theorem jc_174 : j_cP ((8, 1), (1001, 0)) := List.mem_of_getElem? (i := 978) (by decide +kernel)
theorem jc_175 : j_cP ((8, 44), (143, 0)) := ⟨jm_143, rfl, List.mem_of_getElem? (i := 1045) (by decide +kernel)⟩
theorem jc_176 : j_cP ((8, 61), (151, 0)) := ⟨jm_151, rfl, List.mem_of_getElem? (i := 1086) (by decide +kernel)⟩
theorem jc_177 : j_cP ((8, 69), (156, 0)) := ⟨jm_156, rfl, List.mem_of_getElem? (i := 1066) (by decide +kernel)⟩
theorem jc_178 : j_cP ((8, 72), (153, 0)) := ⟨jm_153, rfl, List.mem_of_getElem? (i := 1094) (by decide +kernel)⟩
theorem jc_179 : j_cP ((8, 76), (157, 0)) := ⟨jm_157, rfl, List.mem_of_getElem? (i := 1070) (by decide +kernel)⟩
theorem jc_180 : j_cP ((8, 79), (158, 0)) := ⟨jm_158, rfl, List.mem_of_getElem? (i := 1074) (by decide +kernel)⟩
theorem jc_181 : j_cP ((8, 82), (159, 0)) := ⟨jm_159, rfl, List.mem_of_getElem? (i := 1078) (by decide +kernel)⟩
theorem jc_182 : j_cP ((8, 85), (160, 0)) := ⟨jm_160, rfl, List.mem_of_getElem? (i := 1082) (by decide +kernel)⟩
theorem jc_183 : j_cP ((8, 91), (152, 0)) := ⟨jm_152, rfl, List.mem_of_getElem? (i := 1090) (by decide +kernel)⟩
theorem jc_184 : j_cP ((8, 94), (155, 0)) := ⟨jm_155, rfl, List.mem_of_getElem? (i := 1062) (by decide +kernel)⟩
theorem jc_185 : j_cP ((8, 97), (154, 0)) := ⟨jm_154, rfl, List.mem_of_getElem? (i := 1098) (by decide +kernel)⟩
theorem jc_186 : j_cP ((8, 107), (142, 0)) := ⟨jm_142, rfl, List.mem_of_getElem? (i := 1048) (by decide +kernel)⟩
theorem jc_187 : j_cP ((8, 112), (161, 0)) := ⟨jm_161, rfl, List.mem_of_getElem? (i := 1058) (by decide +kernel)⟩
theorem jc_188 : j_cP ((8, 116), (144, 0)) := ⟨jm_144, rfl, List.mem_of_getElem? (i := 1112) (by decide +kernel)⟩
theorem jc_189 : j_cP ((8, 119), (164, 0)) := ⟨jm_164, rfl, List.mem_of_getElem? (i := 1108) (by decide +kernel)⟩
theorem jc_190 : j_cP ((8, 123), (148, 0)) := ⟨jm_148, rfl, List.mem_of_getElem? (i := 1133) (by decide +kernel)⟩
theorem jc_191 : j_cP ((8, 127), (166, 0)) := ⟨jm_166, rfl, List.mem_of_getElem? (i := 1137) (by decide +kernel)⟩
theorem jc_192 : j_cP ((8, 134), (145, 0)) := ⟨jm_145, rfl, List.mem_of_getElem? (i := 1120) (by decide +kernel)⟩
theorem jc_193 : j_cP ((8, 137), (146, 0)) := ⟨jm_146, rfl, List.mem_of_getElem? (i := 1128) (by decide +kernel)⟩
theorem jc_194 : j_cP ((8, 142), (168, 0)) := ⟨jm_168, rfl, List.mem_of_getElem? (i := 1141) (by decide +kernel)⟩
theorem jc_195 : j_cP ((8, 145), (169, 0)) := ⟨jm_169, rfl, List.mem_of_getElem? (i := 1149) (by decide +kernel)⟩
theorem jc_196 : j_cP ((8, 152), (147, 0)) := ⟨jm_147, rfl, List.mem_of_getElem? (i := 1167) (by decide +kernel)⟩
theorem jc_197 : j_cP ((8, 155), (175, 0)) := ⟨jm_175, rfl, List.mem_of_getElem? (i := 1171) (by decide +kernel)⟩
theorem jc_198 : j_cP ((8, 164), (179, 0)) := ⟨jm_179, rfl, List.mem_of_getElem? (i := 1190) (by decide +kernel)⟩
theorem jc_199 : j_cP ((8, 167), (181, 0)) := ⟨jm_181, rfl, List.mem_of_getElem? (i := 1197) (by decide +kernel)⟩
theorem jc_200 : j_cP ((8, 170), (182, 0)) := ⟨jm_182, rfl, List.mem_of_getElem? (i := 1205) (by decide +kernel)⟩
theorem jc_201 : j_cP ((8, 173), (183, 0)) := ⟨jm_183, rfl, List.mem_of_getElem? (i := 1209) (by decide +kernel)⟩
theorem jc_202 : j_cP ((8, 177), (186, 0)) := ⟨jm_186, rfl, List.mem_of_getElem? (i := 1226) (by decide +kernel)⟩
theorem jc_203 : j_cP ((8, 181), (187, 0)) := ⟨jm_187, rfl, List.mem_of_getElem? (i := 1222) (by decide +kernel)⟩
theorem jc_204 : j_cP ((8, 186), (188, 0)) := ⟨jm_188, rfl, List.mem_of_getElem? (i := 1218) (by decide +kernel)⟩
theorem jc_205 : j_cP ((8, 189), (167, 0)) := ⟨jm_167, rfl, List.mem_of_getElem? (i := 1230) (by decide +kernel)⟩
theorem jc_206 : j_cP ((8, 195), (190, 0)) := ⟨jm_190, rfl, List.mem_of_getElem? (i := 1239) (by decide +kernel)⟩
theorem jc_207 : j_cP ((8, 200), (193, 0)) := ⟨jm_193, rfl, List.mem_of_getElem? (i := 1253) (by decide +kernel)⟩
theorem jc_208 : j_cP ((8, 203), (149, 0)) := ⟨jm_149, rfl, List.mem_of_getElem? (i := 1266) (by decide +kernel)⟩
theorem jc_209 : j_cP ((8, 206), (150, 0)) := ⟨jm_150, rfl, List.mem_of_getElem? (i := 1270) (by decide +kernel)⟩
theorem jc_210 : j_cP ((8, 213), (195, 0)) := ⟨jm_195, rfl, List.mem_of_getElem? (i := 1262) (by decide +kernel)⟩
theorem jc_211 : j_cP ((8, 217), (200, 0)) := ⟨jm_200, rfl, List.mem_of_getElem? (i := 1290) (by decide +kernel)⟩
theorem jc_212 : j_cP ((8, 223), (205, 0)) := ⟨jm_205, rfl, List.mem_of_getElem? (i := 1314) (by decide +kernel)⟩
theorem jc_213 : j_cP ((8, 229), (206, 0)) := ⟨jm_206, rfl, List.mem_of_getElem? (i := 1310) (by decide +kernel)⟩
theorem jc_214 : j_cP ((8, 232), (207, 0)) := ⟨jm_207, rfl, List.mem_of_getElem? (i := 1318) (by decide +kernel)⟩
theorem jc_215 : j_cP ((8, 235), (208, 0)) := ⟨jm_208, rfl, List.mem_of_getElem? (i := 1322) (by decide +kernel)⟩
theorem jc_216 : j_cP ((8, 238), (209, 0)) := ⟨jm_209, rfl, List.mem_of_getElem? (i := 1326) (by decide +kernel)⟩
theorem jc_217 : j_cP ((8, 241), (212, 0)) := ⟨jm_212, rfl, List.mem_of_getElem? (i := 1338) (by decide +kernel)⟩
theorem jc_218 : j_cP ((9, 9), (79, 0)) := ⟨jm_79, rfl, List.mem_of_getElem? (i := 77) (by decide +kernel)⟩
theorem jc_219 : j_cP ((9, 12), (141, 0)) := ⟨jm_141, rfl, List.mem_of_getElem? (i := 975) (by decide +kernel)⟩
theorem jc_220 : j_cP ((9, 13), (80, 0)) := ⟨jm_80, rfl, List.mem_of_getElem? (i := 308) (by decide +kernel)⟩
theorem jc_221 : j_cP ((9, 17), (174, 0)) := ⟨jm_174, rfl, List.mem_of_getElem? (i := 1157) (by decide +kernel)⟩
theorem jc_222 : j_cP ((9, 18), (81, 0)) := ⟨jm_81, rfl, List.mem_of_getElem? (i := 351) (by decide +kernel)⟩
theorem jc_223 : j_cP ((9, 21), (176, 0)) := ⟨jm_176, rfl, List.mem_of_getElem? (i := 1162) (by decide +kernel)⟩
theorem jc_224 : j_cP ((9, 22), (82, 0)) := ⟨jm_82, rfl, List.mem_of_getElem? (i := 372) (by decide +kernel)⟩
theorem jc_225 : j_cP ((9, 26), (177, 0)) := ⟨jm_177, rfl, List.mem_of_getElem? (i := 1175) (by decide +kernel)⟩
theorem jc_226 : j_cP ((9, 27), (83, 0)) := ⟨jm_83, rfl, List.mem_of_getElem? (i := 388) (by decide +kernel)⟩
theorem jc_227 : j_cP ((9, 30), (178, 0)) := ⟨jm_178, rfl, List.mem_of_getElem? (i := 1181) (by decide +kernel)⟩
theorem jc_228 : j_cP ((9, 31), (84, 0)) := ⟨jm_84, rfl, List.mem_of_getElem? (i := 392) (by decide +kernel)⟩
theorem jc_229 : j_cP ((9, 34), (180, 0)) := ⟨jm_180, rfl, List.mem_of_getElem? (i := 1185) (by decide +kernel)⟩
theorem jc_230 : j_cP ((9, 35), (85, 0)) := ⟨jm_85, rfl, List.mem_of_getElem? (i := 404) (by decide +kernel)⟩
theorem jc_231 : j_cP ((9, 38), (170, 0)) := ⟨jm_170, rfl, List.mem_of_getElem? (i := 1115) (by decide +kernel)⟩
theorem jc_232 : j_cP ((9, 39), (86, 0)) := ⟨jm_86, rfl, List.mem_of_getElem? (i := 413) (by decide +kernel)⟩
theorem jc_233 : j_cP ((9, 42), (171, 0)) := ⟨jm_171, rfl, List.mem_of_getElem? (i := 1124) (by decide +kernel)⟩
theorem jc_234 : j_cP ((9, 43), (87, 0)) := ⟨jm_87, rfl, List.mem_of_getElem? (i := 424) (by decide +kernel)⟩
theorem jc_235 : j_cP ((9, 46), (172, 0)) := ⟨jm_172, rfl, List.mem_of_getElem? (i := 1145) (by decide +kernel)⟩
theorem jc_236 : j_cP ((9, 47), (88, 0)) := ⟨jm_88, rfl, List.mem_of_getElem? (i := 434) (by decide +kernel)⟩
theorem jc_237 : j_cP ((9, 51), (173, 0)) := ⟨jm_173, rfl, List.mem_of_getElem? (i := 1153) (by decide +kernel)⟩
theorem jc_238 : j_cP ((9, 54), (89, 0)) := ⟨jm_89, rfl, List.mem_of_getElem? (i := 438) (by decide +kernel)⟩
theorem jc_239 : j_cP ((9, 58), (162, 0)) := ⟨jm_162, rfl, List.mem_of_getElem? (i := 1040) (by decide +kernel)⟩
theorem jc_240 : j_cP ((9, 59), (90, 0)) := ⟨jm_90, rfl, List.mem_of_getElem? (i := 444) (by decide +kernel)⟩
theorem jc_241 : j_cP ((9, 62), (163, 0)) := ⟨jm_163, rfl, List.mem_of_getElem? (i := 1054) (by decide +kernel)⟩
theorem jc_242 : j_cP ((9, 63), (91, 0)) := ⟨jm_91, rfl, List.mem_of_getElem? (i := 600) (by decide +kernel)⟩
theorem jc_243 : j_cP ((9, 67), (165, 0)) := ⟨jm_165, rfl, List.mem_of_getElem? (i := 1104) (by decide +kernel)⟩
theorem jc_244 : j_cP ((9, 68), (92, 0)) := ⟨jm_92, rfl, List.mem_of_getElem? (i := 630) (by decide +kernel)⟩
theorem jc_245 : j_cP ((9, 71), (184, 0)) := ⟨jm_184, rfl, List.mem_of_getElem? (i := 1193) (by decide +kernel)⟩
theorem jc_246 : j_cP ((9, 72), (93, 0)) := ⟨jm_93, rfl, List.mem_of_getElem? (i := 646) (by decide +kernel)⟩
theorem jc_247 : j_cP ((9, 75), (185, 0)) := ⟨jm_185, rfl, List.mem_of_getElem? (i := 1201) (by decide +kernel)⟩
theorem jc_248 : j_cP ((9, 76), (94, 0)) := ⟨jm_94, rfl, List.mem_of_getElem? (i := 666) (by decide +kernel)⟩
theorem jc_249 : j_cP ((9, 79), (189, 0)) := ⟨jm_189, rfl, List.mem_of_getElem? (i := 1213) (by decide +kernel)⟩
theorem jc_250 : j_cP ((9, 80), (95, 0)) := ⟨jm_95, rfl, List.mem_of_getElem? (i := 692) (by decide +kernel)⟩
theorem jc_251 : j_cP ((9, 83), (191, 0)) := ⟨jm_191, rfl, List.mem_of_getElem? (i := 1234) (by decide +kernel)⟩
theorem jc_252 : j_cP ((9, 84), (96, 0)) := ⟨jm_96, rfl, List.mem_of_getElem? (i := 707) (by decide +kernel)⟩
theorem jc_253 : j_cP ((9, 87), (192, 0)) := ⟨jm_192, rfl, List.mem_of_getElem? (i := 1244) (by decide +kernel)⟩
theorem jc_254 : j_cP ((9, 88), (97, 0)) := ⟨jm_97, rfl, List.mem_of_getElem? (i := 726) (by decide +kernel)⟩
theorem jc_255 : j_cP ((9, 91), (194, 0)) := ⟨jm_194, rfl, List.mem_of_getElem? (i := 1248) (by decide +kernel)⟩
theorem jc_256 : j_cP ((9, 92), (98, 0)) := ⟨jm_98, rfl, List.mem_of_getElem? (i := 749) (by decide +kernel)⟩
theorem jc_257 : j_cP ((9, 95), (196, 0)) := ⟨jm_196, rfl, List.mem_of_getElem? (i := 1256) (by decide +kernel)⟩
theorem jc_258 : j_cP ((9, 96), (99, 0)) := ⟨jm_99, rfl, List.mem_of_getElem? (i := 783) (by decide +kernel)⟩
theorem jc_259 : j_cP ((9, 99), (197, 0)) := ⟨jm_197, rfl, List.mem_of_getElem? (i := 1274) (by decide +kernel)⟩
theorem jc_260 : j_cP ((9, 100), (100, 0)) := ⟨jm_100, rfl, List.mem_of_getElem? (i := 796) (by decide +kernel)⟩
theorem jc_261 : j_cP ((9, 103), (198, 0)) := ⟨jm_198, rfl, List.mem_of_getElem? (i := 1278) (by decide +kernel)⟩
theorem jc_262 : j_cP ((9, 104), (101, 0)) := ⟨jm_101, rfl, List.mem_of_getElem? (i := 808) (by decide +kernel)⟩
theorem jc_263 : j_cP ((9, 108), (199, 0)) := ⟨jm_199, rfl, List.mem_of_getElem? (i := 1282) (by decide +kernel)⟩
theorem jc_264 : j_cP ((9, 109), (102, 0)) := ⟨jm_102, rfl, List.mem_of_getElem? (i := 820) (by decide +kernel)⟩
theorem jc_265 : j_cP ((9, 112), (201, 0)) := ⟨jm_201, rfl, List.mem_of_getElem? (i := 1286) (by decide +kernel)⟩
theorem jc_266 : j_cP ((9, 113), (103, 0)) := ⟨jm_103, rfl, List.mem_of_getElem? (i := 833) (by decide +kernel)⟩
theorem jc_267 : j_cP ((9, 116), (202, 0)) := ⟨jm_202, rfl, List.mem_of_getElem? (i := 1294) (by decide +kernel)⟩
theorem jc_268 : j_cP ((9, 117), (104, 0)) := ⟨jm_104, rfl, List.mem_of_getElem? (i := 843) (by decide +kernel)⟩
theorem jc_269 : j_cP ((9, 120), (203, 0)) := ⟨jm_203, rfl, List.mem_of_getElem? (i := 1298) (by decide +kernel)⟩
theorem jc_270 : j_cP ((9, 121), (105, 0)) := ⟨jm_105, rfl, List.mem_of_getElem? (i := 856) (by decide +kernel)⟩
theorem jc_271 : j_cP ((9, 124), (204, 0)) := ⟨jm_204, rfl, List.mem_of_getElem? (i := 1302) (by decide +kernel)⟩
theorem jc_272 : j_cP ((9, 125), (106, 0)) := ⟨jm_106, rfl, List.mem_of_getElem? (i := 860) (by decide +kernel)⟩
theorem jc_273 : j_cP ((9, 128), (210, 0)) := ⟨jm_210, rfl, List.mem_of_getElem? (i := 1306) (by decide +kernel)⟩
theorem jc_274 : j_cP ((9, 129), (107, 0)) := ⟨jm_107, rfl, List.mem_of_getElem? (i := 887) (by decide +kernel)⟩
theorem jc_275 : j_cP ((9, 132), (211, 0)) := ⟨jm_211, rfl, List.mem_of_getElem? (i := 1330) (by decide +kernel)⟩
theorem jc_276 : j_cP ((9, 133), (108, 0)) := ⟨jm_108, rfl, List.mem_of_getElem? (i := 891) (by decide +kernel)⟩
theorem jc_277 : j_cP ((9, 136), (213, 0)) := ⟨jm_213, rfl, List.mem_of_getElem? (i := 1334) (by decide +kernel)⟩
theorem jc_278 : j_cP ((9, 137), (109, 0)) := ⟨jm_109, rfl, List.mem_of_getElem? (i := 909) (by decide +kernel)⟩
theorem jc_279 : j_cP ((9, 140), (214, 0)) := ⟨jm_214, rfl, List.mem_of_getElem? (i := 1341) (by decide +kernel)⟩
theorem jc_280 : j_cP ((9, 141), (110, 0)) := ⟨jm_110, rfl, List.mem_of_getElem? (i := 922) (by decide +kernel)⟩
theorem jc_281 : j_cP ((9, 145), (215, 0)) := ⟨jm_215, rfl, List.mem_of_getElem? (i := 1345) (by decide +kernel)⟩
theorem jc_282 : j_cP ((9, 146), (111, 0)) := ⟨jm_111, rfl, List.mem_of_getElem? (i := 927) (by decide +kernel)⟩
theorem jc_283 : j_cP ((9, 149), (216, 0)) := ⟨jm_216, rfl, List.mem_of_getElem? (i := 1349) (by decide +kernel)⟩
theorem jc_284 : j_cP ((9, 150), (112, 0)) := ⟨jm_112, rfl, List.mem_of_getElem? (i := 932) (by decide +kernel)⟩
theorem jc_285 : j_cP ((9, 153), (217, 0)) := ⟨jm_217, rfl, List.mem_of_getElem? (i := 1353) (by decide +kernel)⟩
theorem jc_286 : j_cP ((9, 154), (113, 0)) := ⟨jm_113, rfl, List.mem_of_getElem? (i := 939) (by decide +kernel)⟩
theorem jc_287 : j_cP ((9, 157), (218, 0)) := ⟨jm_218, rfl, List.mem_of_getElem? (i := 1357) (by decide +kernel)⟩
theorem jc_288 : j_cP ((9, 158), (114, 0)) := ⟨jm_114, rfl, List.mem_of_getElem? (i := 944) (by decide +kernel)⟩
theorem jc_289 : j_cP ((9, 161), (219, 0)) := ⟨jm_219, rfl, List.mem_of_getElem? (i := 1361) (by decide +kernel)⟩
theorem jc_290 : j_cP ((9, 162), (115, 0)) := ⟨jm_115, rfl, List.mem_of_getElem? (i := 948) (by decide +kernel)⟩
theorem jc_291 : j_cP ((9, 165), (220, 0)) := ⟨jm_220, rfl, List.mem_of_getElem? (i := 1365) (by decide +kernel)⟩
theorem jc_292 : j_cP ((9, 166), (116, 0)) := ⟨jm_116, rfl, List.mem_of_getElem? (i := 952) (by decide +kernel)⟩
theorem jc_293 : j_cP ((9, 169), (221, 0)) := ⟨jm_221, rfl, List.mem_of_getElem? (i := 1369) (by decide +kernel)⟩
theorem jc_294 : j_cP ((9, 170), (117, 0)) := ⟨jm_117, rfl, List.mem_of_getElem? (i := 961) (by decide +kernel)⟩
theorem jc_295 : j_cP ((9, 173), (222, 0)) := ⟨jm_222, rfl, List.mem_of_getElem? (i := 1373) (by decide +kernel)⟩
theorem jc_296 : j_cP ((9, 174), (118, 0)) := ⟨jm_118, rfl, List.mem_of_getElem? (i := 969) (by decide +kernel)⟩
theorem jc_297 : j_cP ((9, 177), (223, 0)) := ⟨jm_223, rfl, List.mem_of_getElem? (i := 1377) (by decide +kernel)⟩
set_option maxRecDepth 100000 in
theorem j_cok : ∀ q ∈ j_cl_, j_cP q := List.forall_mem_cons.mpr ⟨jc_0, List.forall_mem_cons.mpr ⟨jc_1, List.forall_mem_cons.mpr ⟨jc_2, List.forall_mem_cons.mpr ⟨jc_3, List.forall_mem_cons.mpr ⟨jc_4, List.forall_mem_cons.mpr ⟨jc_5, List.forall_mem_cons.mpr ⟨jc_6, List.forall_mem_cons.mpr ⟨jc_7, List.forall_mem_cons.mpr ⟨jc_8, List.forall_mem_cons.mpr ⟨jc_9, List.forall_mem_cons.mpr ⟨jc_10, List.forall_mem_cons.mpr ⟨jc_11, List.forall_mem_cons.mpr ⟨jc_12, List.forall_mem_cons.mpr ⟨jc_13, List.forall_mem_cons.mpr ⟨jc_14, List.forall_mem_cons.mpr ⟨jc_15, List.forall_mem_cons.mpr ⟨jc_16, List.forall_mem_cons.mpr ⟨jc_17, List.forall_mem_cons.mpr ⟨jc_18, List.forall_mem_cons.mpr ⟨jc_19, List.forall_mem_cons.mpr ⟨jc_20, List.forall_mem_cons.mpr ⟨jc_21, List.forall_mem_cons.mpr ⟨jc_22, List.forall_mem_cons.mpr ⟨jc_23, List.forall_mem_cons.mpr ⟨jc_24, List.forall_mem_cons.mpr ⟨jc_25, List.forall_mem_cons.mpr ⟨jc_26, List.forall_mem_cons.mpr ⟨jc_27, List.forall_mem_cons.mpr ⟨jc_28, List.forall_mem_cons.mpr ⟨jc_29, List.forall_mem_cons.mpr ⟨jc_30, List.forall_mem_cons.mpr ⟨jc_31, List.forall_mem_cons.mpr ⟨jc_32, List.forall_mem_cons.mpr ⟨jc_33, List.forall_mem_cons.mpr ⟨jc_34, List.forall_mem_cons.mpr ⟨jc_35, List.forall_mem_cons.mpr ⟨jc_36, List.forall_mem_cons.mpr ⟨jc_37, List.forall_mem_cons.mpr ⟨jc_38, List.forall_mem_cons.mpr ⟨jc_39, List.forall_mem_cons.mpr ⟨jc_40, List.forall_mem_cons.mpr ⟨jc_41, List.forall_mem_cons.mpr ⟨jc_42, List.forall_mem_cons.mpr ⟨jc_43, List.forall_mem_cons.mpr ⟨jc_44, List.forall_mem_cons.mpr ⟨jc_45, List.forall_mem_cons.mpr ⟨jc_46, List.forall_mem_cons.mpr ⟨jc_47, List.forall_mem_cons.mpr ⟨jc_48, List.forall_mem_cons.mpr ⟨jc_49, List.forall_mem_cons.mpr ⟨jc_50, List.forall_mem_cons.mpr ⟨jc_51, List.forall_mem_cons.mpr ⟨jc_52, List.forall_mem_cons.mpr ⟨jc_53, List.forall_mem_cons.mpr ⟨jc_54, List.forall_mem_cons.mpr ⟨jc_55, List.forall_mem_cons.mpr ⟨jc_56, List.forall_mem_cons.mpr ⟨jc_57, List.forall_mem_cons.mpr ⟨jc_58, List.forall_mem_cons.mpr ⟨jc_59, List.forall_mem_cons.mpr ⟨jc_60, List.forall_mem_cons.mpr ⟨jc_61, List.forall_mem_cons.mpr ⟨jc_62, List.forall_mem_cons.mpr ⟨jc_63, List.forall_mem_cons.mpr ⟨jc_64, List.forall_mem_cons.mpr ⟨jc_65, List.forall_mem_cons.mpr ⟨jc_66, List.forall_mem_cons.mpr ⟨jc_67, List.forall_mem_cons.mpr ⟨jc_68, List.forall_mem_cons.mpr ⟨jc_69, List.forall_mem_cons.mpr ⟨jc_70, List.forall_mem_cons.mpr ⟨jc_71, List.forall_mem_cons.mpr ⟨jc_72, List.forall_mem_cons.mpr ⟨jc_73, List.forall_mem_cons.mpr ⟨jc_74, List.forall_mem_cons.mpr ⟨jc_75, List.forall_mem_cons.mpr ⟨jc_76, List.forall_mem_cons.mpr ⟨jc_77, List.forall_mem_cons.mpr ⟨jc_78, List.forall_mem_cons.mpr ⟨jc_79, List.forall_mem_cons.mpr ⟨jc_80, List.forall_mem_cons.mpr ⟨jc_81, List.forall_mem_cons.mpr ⟨jc_82, List.forall_mem_cons.mpr ⟨jc_83, List.forall_mem_cons.mpr ⟨jc_84, List.forall_mem_cons.mpr ⟨jc_85, List.forall_mem_cons.mpr ⟨jc_86, List.forall_mem_cons.mpr ⟨jc_87, List.forall_mem_cons.mpr ⟨jc_88, List.forall_mem_cons.mpr ⟨jc_89, List.forall_mem_cons.mpr ⟨jc_90, List.forall_mem_cons.mpr ⟨jc_91, List.forall_mem_cons.mpr ⟨jc_92, List.forall_mem_cons.mpr ⟨jc_93, List.forall_mem_cons.mpr ⟨jc_94, List.forall_mem_cons.mpr ⟨jc_95, List.forall_mem_cons.mpr ⟨jc_96, List.forall_mem_cons.mpr ⟨jc_97, List.forall_mem_cons.mpr ⟨jc_98, List.forall_mem_cons.mpr ⟨jc_99, List.forall_mem_cons.mpr ⟨jc_100, List.forall_mem_cons.mpr ⟨jc_101, List.forall_mem_cons.mpr ⟨jc_102, List.forall_mem_cons.mpr ⟨jc_103, List.forall_mem_cons.mpr ⟨jc_104, List.forall_mem_cons.mpr ⟨jc_105, List.forall_mem_cons.mpr ⟨jc_106, List.forall_mem_cons.mpr ⟨jc_107, List.forall_mem_cons.mpr ⟨jc_108, List.forall_mem_cons.mpr ⟨jc_109, List.forall_mem_cons.mpr ⟨jc_110, List.forall_mem_cons.mpr ⟨jc_111, List.forall_mem_cons.mpr ⟨jc_112, List.forall_mem_cons.mpr ⟨jc_113, List.forall_mem_cons.mpr ⟨jc_114, List.forall_mem_cons.mpr ⟨jc_115, List.forall_mem_cons.mpr ⟨jc_116, List.forall_mem_cons.mpr ⟨jc_117, List.forall_mem_cons.mpr ⟨jc_118, List.forall_mem_cons.mpr ⟨jc_119, List.forall_mem_cons.mpr ⟨jc_120, List.forall_mem_cons.mpr ⟨jc_121, List.forall_mem_cons.mpr ⟨jc_122, List.forall_mem_cons.mpr ⟨jc_123, List.forall_mem_cons.mpr ⟨jc_124, List.forall_mem_cons.mpr ⟨jc_125, List.forall_mem_cons.mpr ⟨jc_126, List.forall_mem_cons.mpr ⟨jc_127, List.forall_mem_cons.mpr ⟨jc_128, List.forall_mem_cons.mpr ⟨jc_129, List.forall_mem_cons.mpr ⟨jc_130, List.forall_mem_cons.mpr ⟨jc_131, List.forall_mem_cons.mpr ⟨jc_132, List.forall_mem_cons.mpr ⟨jc_133, List.forall_mem_cons.mpr ⟨jc_134, List.forall_mem_cons.mpr ⟨jc_135, List.forall_mem_cons.mpr ⟨jc_136, List.forall_mem_cons.mpr ⟨jc_137, List.forall_mem_cons.mpr ⟨jc_138, List.forall_mem_cons.mpr ⟨jc_139, List.forall_mem_cons.mpr ⟨jc_140, List.forall_mem_cons.mpr ⟨jc_141, List.forall_mem_cons.mpr ⟨jc_142, List.forall_mem_cons.mpr ⟨jc_143, List.forall_mem_cons.mpr ⟨jc_144, List.forall_mem_cons.mpr ⟨jc_145, List.forall_mem_cons.mpr ⟨jc_146, List.forall_mem_cons.mpr ⟨jc_147, List.forall_mem_cons.mpr ⟨jc_148, List.forall_mem_cons.mpr ⟨jc_149, List.forall_mem_cons.mpr ⟨jc_150, List.forall_mem_cons.mpr ⟨jc_151, List.forall_mem_cons.mpr ⟨jc_152, List.forall_mem_cons.mpr ⟨jc_153, List.forall_mem_cons.mpr ⟨jc_154, List.forall_mem_cons.mpr ⟨jc_155, List.forall_mem_cons.mpr ⟨jc_156, List.forall_mem_cons.mpr ⟨jc_157, List.forall_mem_cons.mpr ⟨jc_158, List.forall_mem_cons.mpr ⟨jc_159, List.forall_mem_cons.mpr ⟨jc_160, List.forall_mem_cons.mpr ⟨jc_161, List.forall_mem_cons.mpr ⟨jc_162, List.forall_mem_cons.mpr ⟨jc_163, List.forall_mem_cons.mpr ⟨jc_164, List.forall_mem_cons.mpr ⟨jc_165, List.forall_mem_cons.mpr ⟨jc_166, List.forall_mem_cons.mpr ⟨jc_167, List.forall_mem_cons.mpr ⟨jc_168, List.forall_mem_cons.mpr ⟨jc_169, List.forall_mem_cons.mpr ⟨jc_170, List.forall_mem_cons.mpr ⟨jc_171, List.forall_mem_cons.mpr ⟨jc_172, List.forall_mem_cons.mpr ⟨jc_173, List.forall_mem_cons.mpr ⟨jc_174, List.forall_mem_cons.mpr ⟨jc_175, List.forall_mem_cons.mpr ⟨jc_176, List.forall_mem_cons.mpr ⟨jc_177, List.forall_mem_cons.mpr ⟨jc_178, List.forall_mem_cons.mpr ⟨jc_179, List.forall_mem_cons.mpr ⟨jc_180, List.forall_mem_cons.mpr ⟨jc_181, List.forall_mem_cons.mpr ⟨jc_182, List.forall_mem_cons.mpr ⟨jc_183, List.forall_mem_cons.mpr ⟨jc_184, List.forall_mem_cons.mpr ⟨jc_185, List.forall_mem_cons.mpr ⟨jc_186, List.forall_mem_cons.mpr ⟨jc_187, List.forall_mem_cons.mpr ⟨jc_188, List.forall_mem_cons.mpr ⟨jc_189, List.forall_mem_cons.mpr ⟨jc_190, List.forall_mem_cons.mpr ⟨jc_191, List.forall_mem_cons.mpr ⟨jc_192, List.forall_mem_cons.mpr ⟨jc_193, List.forall_mem_cons.mpr ⟨jc_194, List.forall_mem_cons.mpr ⟨jc_195, List.forall_mem_cons.mpr ⟨jc_196, List.forall_mem_cons.mpr ⟨jc_197, List.forall_mem_cons.mpr ⟨jc_198, List.forall_mem_cons.mpr ⟨jc_199, List.forall_mem_cons.mpr ⟨jc_200, List.forall_mem_cons.mpr ⟨jc_201, List.forall_mem_cons.mpr ⟨jc_202, List.forall_mem_cons.mpr ⟨jc_203, List.forall_mem_cons.mpr ⟨jc_204, List.forall_mem_cons.mpr ⟨jc_205, List.forall_mem_cons.mpr ⟨jc_206, List.forall_mem_cons.mpr ⟨jc_207, List.forall_mem_cons.mpr ⟨jc_208, List.forall_mem_cons.mpr ⟨jc_209, List.forall_mem_cons.mpr ⟨jc_210, List.forall_mem_cons.mpr ⟨jc_211, List.forall_mem_cons.mpr ⟨jc_212, List.forall_mem_cons.mpr ⟨jc_213, List.forall_mem_cons.mpr ⟨jc_214, List.forall_mem_cons.mpr ⟨jc_215, List.forall_mem_cons.mpr ⟨jc_216, List.forall_mem_cons.mpr ⟨jc_217, List.forall_mem_cons.mpr ⟨jc_218, List.forall_mem_cons.mpr ⟨jc_219, List.forall_mem_cons.mpr ⟨jc_220, List.forall_mem_cons.mpr ⟨jc_221, List.forall_mem_cons.mpr ⟨jc_222, List.forall_mem_cons.mpr ⟨jc_223, List.forall_mem_cons.mpr ⟨jc_224, List.forall_mem_cons.mpr ⟨jc_225, List.forall_mem_cons.mpr ⟨jc_226, List.forall_mem_cons.mpr ⟨jc_227, List.forall_mem_cons.mpr ⟨jc_228, List.forall_mem_cons.mpr ⟨jc_229, List.forall_mem_cons.mpr ⟨jc_230, List.forall_mem_cons.mpr ⟨jc_231, List.forall_mem_cons.mpr ⟨jc_232, List.forall_mem_cons.mpr ⟨jc_233, List.forall_mem_cons.mpr ⟨jc_234, List.forall_mem_cons.mpr ⟨jc_235, List.forall_mem_cons.mpr ⟨jc_236, List.forall_mem_cons.mpr ⟨jc_237, List.forall_mem_cons.mpr ⟨jc_238, List.forall_mem_cons.mpr ⟨jc_239, List.forall_mem_cons.mpr ⟨jc_240, List.forall_mem_cons.mpr ⟨jc_241, List.forall_mem_cons.mpr ⟨jc_242, List.forall_mem_cons.mpr ⟨jc_243, List.forall_mem_cons.mpr ⟨jc_244, List.forall_mem_cons.mpr ⟨jc_245, List.forall_mem_cons.mpr ⟨jc_246, List.forall_mem_cons.mpr ⟨jc_247, List.forall_mem_cons.mpr ⟨jc_248, List.forall_mem_cons.mpr ⟨jc_249, List.forall_mem_cons.mpr ⟨jc_250, List.forall_mem_cons.mpr ⟨jc_251, List.forall_mem_cons.mpr ⟨jc_252, List.forall_mem_cons.mpr ⟨jc_253, List.forall_mem_cons.mpr ⟨jc_254, List.forall_mem_cons.mpr ⟨jc_255, List.forall_mem_cons.mpr ⟨jc_256, List.forall_mem_cons.mpr ⟨jc_257, List.forall_mem_cons.mpr ⟨jc_258, List.forall_mem_cons.mpr ⟨jc_259, List.forall_mem_cons.mpr ⟨jc_260, List.forall_mem_cons.mpr ⟨jc_261, List.forall_mem_cons.mpr ⟨jc_262, List.forall_mem_cons.mpr ⟨jc_263, List.forall_mem_cons.mpr ⟨jc_264, List.forall_mem_cons.mpr ⟨jc_265, List.forall_mem_cons.mpr ⟨jc_266, List.forall_mem_cons.mpr ⟨jc_267, List.forall_mem_cons.mpr ⟨jc_268, List.forall_mem_cons.mpr ⟨jc_269, List.forall_mem_cons.mpr ⟨jc_270, List.forall_mem_cons.mpr ⟨jc_271, List.forall_mem_cons.mpr ⟨jc_272, List.forall_mem_cons.mpr ⟨jc_273, List.forall_mem_cons.mpr ⟨jc_274, List.forall_mem_cons.mpr ⟨jc_275, List.forall_mem_cons.mpr ⟨jc_276, List.forall_mem_cons.mpr ⟨jc_277, List.forall_mem_cons.mpr ⟨jc_278, List.forall_mem_cons.mpr ⟨jc_279, List.forall_mem_cons.mpr ⟨jc_280, List.forall_mem_cons.mpr ⟨jc_281, List.forall_mem_cons.mpr ⟨jc_282, List.forall_mem_cons.mpr ⟨jc_283, List.forall_mem_cons.mpr ⟨jc_284, List.forall_mem_cons.mpr ⟨jc_285, List.forall_mem_cons.mpr ⟨jc_286, List.forall_mem_cons.mpr ⟨jc_287, List.forall_mem_cons.mpr ⟨jc_288, List.forall_mem_cons.mpr ⟨jc_289, List.forall_mem_cons.mpr ⟨jc_290, List.forall_mem_cons.mpr ⟨jc_291, List.forall_mem_cons.mpr ⟨jc_292, List.forall_mem_cons.mpr ⟨jc_293, List.forall_mem_cons.mpr ⟨jc_294, List.forall_mem_cons.mpr ⟨jc_295, List.forall_mem_cons.mpr ⟨jc_296, List.forall_mem_cons.mpr ⟨jc_297, fun _ h => absurd h List.not_mem_nil⟩⟩⟩⟩⟩⟩⟩⟩⟩⟩⟩⟩⟩⟩⟩⟩⟩⟩⟩⟩⟩⟩⟩⟩⟩⟩⟩⟩⟩⟩⟩⟩⟩⟩⟩⟩⟩⟩⟩⟩⟩⟩⟩⟩⟩⟩⟩⟩⟩⟩⟩⟩⟩⟩⟩⟩⟩⟩⟩⟩⟩⟩⟩⟩⟩⟩⟩⟩⟩⟩⟩⟩⟩⟩⟩⟩⟩⟩⟩⟩⟩⟩⟩⟩⟩⟩⟩⟩⟩⟩⟩⟩⟩⟩⟩⟩⟩⟩⟩⟩⟩⟩⟩⟩⟩⟩⟩⟩⟩⟩⟩⟩⟩⟩⟩⟩⟩⟩⟩⟩⟩⟩⟩⟩⟩⟩⟩⟩⟩⟩⟩⟩⟩⟩⟩⟩⟩⟩⟩⟩⟩⟩⟩⟩⟩⟩⟩⟩⟩⟩⟩⟩⟩⟩⟩⟩⟩⟩⟩⟩⟩⟩⟩⟩⟩⟩⟩⟩⟩⟩⟩⟩⟩⟩⟩⟩⟩⟩⟩⟩⟩⟩⟩⟩⟩⟩⟩⟩⟩⟩⟩⟩⟩⟩⟩⟩⟩⟩⟩⟩⟩⟩⟩⟩⟩⟩⟩⟩⟩⟩⟩⟩⟩⟩⟩⟩⟩⟩⟩⟩⟩⟩⟩⟩⟩⟩⟩⟩⟩⟩⟩⟩⟩⟩⟩⟩⟩⟩⟩⟩⟩⟩⟩⟩⟩⟩⟩⟩⟩⟩⟩⟩⟩⟩⟩⟩⟩⟩⟩⟩⟩⟩⟩⟩⟩⟩⟩⟩⟩⟩⟩⟩⟩⟩⟩⟩⟩⟩⟩⟩⟩⟩⟩⟩⟩⟩⟩⟩⟩⟩⟩⟩⟩⟩⟩⟩⟩⟩
set_option maxRecDepth 100000 in
theorem j_kok : ∀ q ∈ j_kl, Cond.constant (j_on q.1.1) q.1.2 q.2 ∈ lw_tbl := List.forall_mem_cons.mpr ⟨List.mem_of_getElem? (i := 704) (by decide +kernel), List.forall_mem_cons.mpr ⟨List.mem_of_getElem? (i := 333) (by decide +kernel), List.forall_mem_cons.mpr ⟨List.mem_of_getElem? (i := 1052) (by decide +kernel), List.forall_mem_cons.mpr ⟨List.mem_of_getElem? (i := 1243) (by decide +kernel), List.forall_mem_cons.mpr ⟨List.mem_of_getElem? (i := 741) (by decide +kernel), List.forall_mem_cons.mpr ⟨List.mem_of_getElem? (i := 742) (by decide +kernel), List.forall_mem_cons.mpr ⟨List.mem_of_getElem? (i := 743) (by decide +kernel), fun _ h => absurd h List.not_mem_nil⟩⟩⟩⟩⟩⟩⟩
set_option maxRecDepth 100000 in
theorem j_lok : ∀ q ∈ j_ll, Cond.constantLong (j_on q.1.1) q.1.2 q.2 ∈ lw_tbl := List.forall_mem_cons.mpr ⟨List.mem_of_getElem? (i := 1102) (by decide +kernel), List.forall_mem_cons.mpr ⟨List.mem_of_getElem? (i := 1103) (by decide +kernel), List.forall_mem_cons.mpr ⟨List.mem_of_getElem? (i := 1044) (by decide +kernel), List.forall_mem_cons.mpr ⟨List.mem_of_getElem? (i := 1053) (by decide +kernel), List.forall_mem_cons.mpr ⟨List.mem_of_getElem? (i := 1152) (by decide +kernel), List.forall_mem_cons.mpr ⟨List.mem_of_getElem? (i := 1119) (by decide +kernel), List.forall_mem_cons.mpr ⟨List.mem_of_getElem? (i := 1132) (by decide +kernel), List.forall_mem_cons.mpr ⟨List.mem_of_getElem? (i := 1161) (by decide +kernel), List.forall_mem_cons.mpr ⟨List.mem_of_getElem? (i := 1166) (by decide +kernel), List.forall_mem_cons.mpr ⟨List.mem_of_getElem? (i := 1179) (by decide +kernel), List.forall_mem_cons.mpr ⟨List.mem_of_getElem? (i := 1180) (by decide +kernel), List.forall_mem_cons.mpr ⟨List.mem_of_getElem? (i := 1189) (by decide +kernel), List.forall_mem_cons.mpr ⟨List.mem_of_getElem? (i := 1217) (by decide +kernel), List.forall_mem_cons.mpr ⟨List.mem_of_getElem? (i := 1238) (by decide +kernel), List.forall_mem_cons.mpr ⟨List.mem_of_getElem? (i := 1252) (by decide +kernel), List.forall_mem_cons.mpr ⟨List.mem_of_getElem? (i := 1260) (by decide +kernel), List.forall_mem_cons.mpr ⟨List.mem_of_getElem? (i := 1261) (by decide +kernel), List.forall_mem_cons.mpr ⟨List.mem_of_getElem? (i := 1381) (by decide +kernel), fun _ h => absurd h List.not_mem_nil⟩⟩⟩⟩⟩⟩⟩⟩⟩⟩⟩⟩⟩⟩⟩⟩⟩⟩
theorem j_nok : ∀ q ∈ j_nl_, q.2 < 9 ∧ Cond.classLink (j_on q.1.1) q.1.2 (j_on q.2) ∈ lw_tbl := List.forall_mem_cons.mpr ⟨⟨by decide, List.mem_of_getElem? (i := 112) (by decide +kernel)⟩, List.forall_mem_cons.mpr ⟨⟨by decide, List.mem_of_getElem? (i := 89) (by decide +kernel)⟩, List.forall_mem_cons.mpr ⟨⟨by decide, List.mem_of_getElem? (i := 106) (by decide +kernel)⟩, List.forall_mem_cons.mpr ⟨⟨by decide, List.mem_of_getElem? (i := 215) (by decide +kernel)⟩, List.forall_mem_cons.mpr ⟨⟨by decide, List.mem_of_getElem? (i := 260) (by decide +kernel)⟩, List.forall_mem_cons.mpr ⟨⟨by decide, List.mem_of_getElem? (i := 189) (by decide +kernel)⟩, List.forall_mem_cons.mpr ⟨⟨by decide, List.mem_of_getElem? (i := 191) (by decide +kernel)⟩, List.forall_mem_cons.mpr ⟨⟨by decide, List.mem_of_getElem? (i := 237) (by decide +kernel)⟩, List.forall_mem_cons.mpr ⟨⟨by decide, List.mem_of_getElem? (i := 83) (by decide +kernel)⟩, List.forall_mem_cons.mpr ⟨⟨by decide, List.mem_of_getElem? (i := 181) (by decide +kernel)⟩, List.forall_mem_cons.mpr ⟨⟨by decide, List.mem_of_getElem? (i := 183) (by decide +kernel)⟩, List.forall_mem_cons.mpr ⟨⟨by decide, List.mem_of_getElem? (i := 209) (by decide +kernel)⟩, List.forall_mem_cons.mpr ⟨⟨by decide, List.mem_of_getElem? (i := 231) (by decide +kernel)⟩, List.forall_mem_cons.mpr ⟨⟨by decide, List.mem_of_getElem? (i := 253) (by decide +kernel)⟩, List.forall_mem_cons.mpr ⟨⟨by decide, List.mem_of_getElem? (i := 75) (by decide +kernel)⟩, List.forall_mem_cons.mpr ⟨⟨by decide, List.mem_of_getElem? (i := 973) (by decide +kernel)⟩, fun _ h => absurd h List.not_mem_nil⟩⟩⟩⟩⟩⟩⟩⟩⟩⟩⟩⟩⟩⟩⟩⟩
theorem j_anok : Cond.classLink (j_on 7) 62 "WhiffCoins$Sheet" ∈ lw_tbl := List.mem_of_getElem? (i := 253) (by decide +kernel)
theorem j_inst : ∀ ci, ci < 9 → Cond.instantiable (j_on ci) (j_nf ci) ∈ lw_tbl := j_lt9 (List.mem_of_getElem? (i := 107) (by decide +kernel)) (List.mem_of_getElem? (i := 84) (by decide +kernel)) (List.mem_of_getElem? (i := 90) (by decide +kernel)) (List.mem_of_getElem? (i := 210) (by decide +kernel)) (List.mem_of_getElem? (i := 255) (by decide +kernel)) (List.mem_of_getElem? (i := 184) (by decide +kernel)) (List.mem_of_getElem? (i := 232) (by decide +kernel)) (List.mem_of_getElem? (i := 76) (by decide +kernel)) (List.mem_of_getElem? (i := 974) (by decide +kernel))
theorem j_init : ∀ ci, ci < 9 → Cond.initialized (j_on ci) ∈ lw_tbl := j_lt9 (List.mem_of_getElem? (i := 62) (by decide +kernel)) (List.mem_of_getElem? (i := 59) (by decide +kernel)) (List.mem_of_getElem? (i := 60) (by decide +kernel)) (List.mem_of_getElem? (i := 64) (by decide +kernel)) (List.mem_of_getElem? (i := 66) (by decide +kernel)) (List.mem_of_getElem? (i := 63) (by decide +kernel)) (List.mem_of_getElem? (i := 65) (by decide +kernel)) (List.mem_of_getElem? (i := 58) (by decide +kernel)) (List.mem_of_getElem? (i := 67) (by decide +kernel))
theorem j_mathok : (Cond.static Lib.Math.max.name ∈ lw_tbl ∧ Cond.initialized "java/lang/Math" ∈ lw_tbl ∧ Cond.code Lib.Math.max.name Lib.Math.max.code 2 (some .int) ∈ lw_tbl) ∧ Cond.static Lib.Math.min.name ∈ lw_tbl ∧ Cond.code Lib.Math.min.name Lib.Math.min.code 2 (some .int) ∈ lw_tbl := ⟨⟨List.mem_of_getElem? (i := 96) (by decide +kernel), List.mem_of_getElem? (i := 61) (by decide +kernel), List.mem_of_getElem? (i := 97) (by decide +kernel)⟩, List.mem_of_getElem? (i := 525) (by decide +kernel), List.mem_of_getElem? (i := 526) (by decide +kernel)⟩
theorem j_cpyok : Cond.native arraycopyName ∈ lw_tbl ∧ Cond.static arraycopyName ∈ lw_tbl ∧ Cond.initialized "java/lang/System" ∈ lw_tbl := ⟨List.mem_of_getElem? (i := 598) (by decide +kernel), List.mem_of_getElem? (i := 597) (by decide +kernel), List.mem_of_getElem? (i := 73) (by decide +kernel)⟩
theorem j_objok : Cond.instanceMethod objectInit ∈ lw_tbl ∧ Cond.code objectInit ⟨#[0xb1]⟩ 1 none ∈ lw_tbl ∧ Cond.arrayClass .int ∈ lw_tbl := ⟨List.mem_of_getElem? (i := 81) (by decide +kernel), List.mem_of_getElem? (i := 82) (by decide +kernel), List.mem_of_getElem? (i := 105) (by decide +kernel)⟩
def j_sn (id : Nat) : String × String := if id = 1001 then (RX7, "ABOVE") else (RX6, "BODIES")
theorem j_sok : ∀ q ∈ j_stl, (q.2 = 1001 ∨ q.2 = 1002) ∧ Cond.fieldLink (j_on q.1.1) q.1.2 (j_sn q.2).1 (j_sn q.2).2 "[I" ∈ lw_tbl := List.forall_mem_cons.mpr ⟨⟨by decide, List.mem_of_getElem? (i := 883) (by decide +kernel)⟩, List.forall_mem_cons.mpr ⟨⟨by decide, List.mem_of_getElem? (i := 402) (by decide +kernel)⟩, fun _ h => absurd h List.not_mem_nil⟩⟩

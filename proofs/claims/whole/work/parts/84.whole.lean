/-! The walk. -/
theorem whole_start {p : Program} {e : Env} {s : State} {m : MethodId} {below : List Frame} {meth : Method} {c : Code} (l : Launch) (hflags : l.flags = flags0) {b L : Nat} {xs : Nat → Int32} (hL : L ≤ 3072) (C0 : lw_At p s m meth c b L xs) : W p l e room_1 s m #[Value.ref b] below meth c s.heap [] 0 0 (lw_Z below #[Value.ref b] s) (entryFrame m ([Value.ref b] : List Value).toArray 4) := by
  obtain ⟨hx, hb, hrt, hml, hown, hts, hX, hbl, hlk, hpre⟩ := C0
  obtain ⟨G, hB, had, hK, hR⟩ := st_all hts hX hbl hpre
  obtain ⟨τ, n126, nsl, hJ⟩ := law_T (L := L) (X := xs) hL
  obtain ⟨f, hf⟩ := j_Xg_iff.mp hJ
  obtain ⟨hV, hn, hs⟩ := j_adq (l := l) (jd_NM l G) f 200 225 0 _ _ _ _ _ hf
  have hl := lv_entry ([Value.ref b]) (n := 4) (Nat.le_of_ble_eq_true rfl)
  rw [lg_entry_eq]
  generalize (lg_sl ([Value.ref b]) ++ List.replicate (4 - (lg_sl ([Value.ref b])).length) Slot.unset).toArray = ls at hl ⊢
  have hl : lv_has ls 4 [(0, .ref b)] := hl
  have hLH : j_LH G ls (j_ml 225) [some (.ref 1003), none, none, none] := by
    refine ⟨hl.1.trans (by decide +kernel), hl.2.1, fun i v hv => ?_⟩
    match i, hv with
    | 0, hv =>
      cases hv
      have h0 := lv_at hl 0 rfl
      rw [← had] at h0
      exact h0
    | 1, hv => cases hv
    | 2, hv => cases hv
    | 3, hv => cases hv
    | _ + 4, hv => simp [j_get] at hv
  have hmain := hV p e room_1 s m #[Value.ref b] below meth c 126 (j_sl τ) ⟨⟨hx, ⟨jm_225, rfl, hb⟩, hml.trans (by decide +kernel), hrt.trans (by decide +kernel), hlk⟩, ⟨by rw [(by decide +kernel : j_on (j_own 225) = R_law)]; exact hown, fun w hw => hts w (List.mem_filter.mp hw).1, hK⟩, ⟨by show 201 + 10 ≤ 2048; omega, by show 64 * 201 + 500 ≤ 84000; omega, by show 126 ≤ 600000; omega, by show _ ≤ 7302250; omega⟩, fun h => absurd h (by decide +kernel), by omega⟩ s.heap [] ls 0 0 hR va_S.rf hLH (by rw [hB]; rfl) (by rw [hB, n126]) ⟨0, rfl, by omega⟩
  intro T hT X
  obtain ⟨t, st, o, hrun, hend, hq, L', hFE, hfr⟩ := hmain T hT X
  refine ⟨t, st, o, hrun, hend, hq.1.trans rfl, hFE.1, hFE.2.1, hFE.2.2.weaken (fun y hy hlt => ?_) (by omega) (by omega)⟩
  have h1 : j_B G ≤ y.base := hfr y hy
  exact absurd hlt (Nat.not_lt.mpr (by rw [← hB]; exact h1))

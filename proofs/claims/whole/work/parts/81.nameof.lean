/-! Reader.nameOf. -/
theorem jd_NM (l : Launch) (G : j_G) : j_NM l G := by
  intro σ o x ho
  refine Met.ofW (cc := cX3_nameOf) (maxL := 2) (ret := some .int) (by decide) rfl ?_
  intro p e s m args below meth c s₁ B hml hv
  obtain ⟨rfl, hR, hKj, hsz⟩ := hv
  have hx := B.exec
  have hb := B.bytes
  have hr := B.returns
  have hlocks := B.notSynchronized
  have hts : ∀ w ∈ j_W, w.before (([.ref o, .int x] : List Value).map (j_tr G)).toArray s = true := fun w hw => atoms_spec (ws := j_wsm jm_51) B.pre w (List.mem_cons_of_mem _ hw)
  have hown : s.vm.findClass RX3 = some m.cls := findClass_of_methodNamed B.named
  have hq : ∀ a : Nat, a < G.2.2.2.1.size → ¬ j_Ad G a → s.heap[a]? = G.2.2.2.1[a]? := fun a h _ => hR.2.2.1 a h
  obtain ⟨r73, r75, hvs, hzs⟩ := hKj.2.2.2.2
  have hK : jd_K G s.heap.size s := ⟨⟨(hvs.kept hq).narrow (fun q h => h.elim), (hzs.kept hq).narrow (fun q h => h.elim)⟩, rfl⟩
  have hz : s.heap.size = s.heap.size := rfl
  have hS : va_S (fun _ => False) s.heap s.heap [] := va_S.rf
  have hSj : va_S (j_Ad G) s.heap s.heap [] := va_S.rf
  have hC : CallFix p m c cX3_nameOf 2 s (([.ref o, .int x] : List Value).map (j_tr G)).toArray j_W RX3 := ⟨hx, hb, hml, hown, hts⟩
  have hl := lv_entry (([.ref o, .int x] : List Value).map (j_tr G)) (n := 2) (Nat.le_of_ble_eq_true rfl)
  rw [lg_entry_eq]
  generalize (lg_sl (([.ref o, .int x] : List Value).map (j_tr G)) ++ List.replicate (2 - (lg_sl (([.ref o, .int x] : List Value).map (j_tr G))).length) Slot.unset).toArray = ls at hl ⊢
  have hl : lv_has ls 2 [(0, .ref (j_ad G o)), (1, .int x)] := hl
  refine lv_iload_n hx hb (by decide +kernel : decode cX3_nameOf 0 = .ok (.iload_n 1, 1)) rfl (lv_at hl 1 rfl) ?_
  refine lv_if_ge hx hb (by decide +kernel : decode cX3_nameOf 1 = .ok (.ifCond .ge 5, 3)) (tgt := 6) rfl (fun h => ?_) (fun h => ?_)
  case refine_2 =>
    have e : j_nm (j_M σ o 2) x = -1 := by
      unfold j_nm
      rw [if_pos]
      rw [nI_0]
      exact Classical.byContradiction (fun g => h (Int32.not_lt.mp g))
    refine lv_iconst (v := -1) hx hb (by decide +kernel : decode cX3_nameOf 4 = .ok (.iconst (-1), 1)) (by decide) ?_
    exact W.iret (v := -1) hx hb hr (fun t ht hW => ⟨by rw [e]; rfl, by rw [ht]; exact hR.moved hW.alike, by rw [ht]; exact hsz, hSj.F ht⟩) hSj.2.2 (by decide +kernel : decode cX3_nameOf 5 = .ok (.ireturn, 1))
  have hj : x.toBitVec.toNat % 65536 < 65536 := Nat.mod_lt _ (by decide)
  have hch := pk_char x
  generalize x.toBitVec.toNat % 65536 = j at hj hch
  have hn : ¬ x < nI 0 := by
    rw [nI_0]
    exact Int32.not_lt.mpr h
  refine lv_aload_n hx hb (by decide +kernel : decode cX3_nameOf 6 = .ok (.aload_n 0, 1)) rfl (lv_at hl 0 rfl) ?_
  have hw := j_ws_at (G := G) hR.1 (o := o) (by omega)
  rw [j_en_obj ho (by decide)] at hw
  have hSf := j_fSok 3 (by decide) 2 (by decide)
  refine va_get (own := RX3) (ref := j_on 3) (k := 2) hx hb hts (j_wsW 3 (by decide)) hown hKj.1 hR.2.2.2 (o - 1) hw (j_vw 3 (by decide)) (by decide) (j_W_at hts (List.mem_of_getElem? (i := 220) (by decide +kernel)) rfl) (fun x h => by rw [hSf.1] at h; exact h) (j_fd_get (by decide)) (by decide +kernel : decode cX3_nameOf 7 = .ok (.getfield 23, 3)) ?_
  rw [show j_tr G (j_getf 3 2 σ o) = .int (j_M σ o 2) from rfl]
  refine lv_if_ne hx hb (by decide +kernel : decode cX3_nameOf 10 = .ok (.ifCond .ne 8, 3)) (tgt := 18) rfl (fun hu => ?_) (fun hu => ?_)
  · have e : j_nm (j_M σ o 2) x = jd_iy 1 j := by
      have hu : ¬ j_M σ o 2 = nI 0 := hu
      rw [(jd_nm hj).2]
      unfold j_nm
      rw [if_neg hn, hch]
      by_cases g : nI j = nI 118
      · rw [if_pos g, if_pos g]
      · rw [if_neg g, if_neg g, if_neg hu]
    have hu : ¬ j_M σ o 2 = nI 0 := hu
    refine va_ldcS (tx := "vkt") hx hb hown r75 (by decide +kernel : decode cX3_nameOf 18 = .ok (.ldc 75, 2)) ?_
    refine lv_iload_n hx hb (by decide +kernel : decode cX3_nameOf 20 = .ok (.iload_n 1, 1)) rfl (lv_at hl 1 rfl) ?_
    refine lv_i2c (v := nI j) hx hb (by decide +kernel : decode cX3_nameOf 21 = .ok (.i2c, 1)) hch ?_
    refine jd_callV (i := 1) (rest := []) (as := [.int (nI j)]) hC hl.1 (by decide) (jd_indexOf1 (by decide) hj) (List.mem_of_getElem? (i := 495) (by decide +kernel)) (List.mem_of_getElem? (i := 496) (by decide +kernel)) (List.mem_of_getElem? (i := 497) (by decide +kernel)) (List.mem_of_getElem? (i := 498) (by decide +kernel)) ⟨rfl, by decide, by decide, (by decide +kernel : (parseMethodDescriptor "(I)I").map (fun d => d.parameters.length) = some 1)⟩ ⟨Nat.le_of_ble_eq_true rfl, Nat.le_of_ble_eq_true rfl⟩ hK hS hz (by simp) ⟨Nat.le_refl _, Nat.le_refl _⟩ (by decide +kernel : decode cX3_nameOf 22 = .ok (.invokevirtual 77, 3)) (fun H locs hS1 hz1 => ?_)
    have eH : H = s.heap := Array.ext hz1 (fun i h1 h2 => by
      have a := hS1.2.1 i h2 (fun h => h)
      rw [Array.getElem?_eq_getElem h1, Array.getElem?_eq_getElem h2] at a
      exact Option.some.inj a)
    subst eH
    exact W.iret (v := jd_iy 1 j) hx hb hr (fun t ht hW => ⟨by rw [e]; rfl, by rw [ht]; exact hR.moved hW.alike, by rw [ht]; exact hsz, hSj.F ht⟩) (fun q hq => (hS1.2.2 q hq).elim) (by decide +kernel : decode cX3_nameOf 25 = .ok (.ireturn, 1))
  · have e : j_nm (j_M σ o 2) x = jd_iy 0 j := by
      have hu : j_M σ o 2 = nI 0 := hu
      rw [(jd_nm hj).1]
      unfold j_nm
      rw [if_neg hn, hch]
      by_cases g : nI j = nI 118
      · rw [if_pos g, if_pos g]
      · rw [if_neg g, if_neg g, if_pos hu]
    refine va_ldcS (tx := "vld") hx hb hown r73 (by decide +kernel : decode cX3_nameOf 13 = .ok (.ldc 73, 2)) ?_
    refine lv_goto hx hb (by decide +kernel : decode cX3_nameOf 15 = .ok (.goto 5, 3)) (tgt := 20) rfl ?_
    refine lv_iload_n hx hb (by decide +kernel : decode cX3_nameOf 20 = .ok (.iload_n 1, 1)) rfl (lv_at hl 1 rfl) ?_
    refine lv_i2c (v := nI j) hx hb (by decide +kernel : decode cX3_nameOf 21 = .ok (.i2c, 1)) hch ?_
    refine jd_callV (i := 0) (rest := []) (as := [.int (nI j)]) hC hl.1 (by decide) (jd_indexOf1 (by decide) hj) (List.mem_of_getElem? (i := 495) (by decide +kernel)) (List.mem_of_getElem? (i := 496) (by decide +kernel)) (List.mem_of_getElem? (i := 497) (by decide +kernel)) (List.mem_of_getElem? (i := 498) (by decide +kernel)) ⟨rfl, by decide, by decide, (by decide +kernel : (parseMethodDescriptor "(I)I").map (fun d => d.parameters.length) = some 1)⟩ ⟨Nat.le_of_ble_eq_true rfl, Nat.le_of_ble_eq_true rfl⟩ hK hS hz (by simp) ⟨Nat.le_refl _, Nat.le_refl _⟩ (by decide +kernel : decode cX3_nameOf 22 = .ok (.invokevirtual 77, 3)) (fun H locs hS1 hz1 => ?_)
    have eH : H = s.heap := Array.ext hz1 (fun i h1 h2 => by
      have a := hS1.2.1 i h2 (fun h => h)
      rw [Array.getElem?_eq_getElem h1, Array.getElem?_eq_getElem h2] at a
      exact Option.some.inj a)
    subst eH
    exact W.iret (v := jd_iy 0 j) hx hb hr (fun t ht hW => ⟨by rw [e]; rfl, by rw [ht]; exact hR.moved hW.alike, by rw [ht]; exact hsz, hSj.F ht⟩) (fun q hq => (hS1.2.2 q hq).elim) (by decide +kernel : decode cX3_nameOf 25 = .ok (.ireturn, 1))

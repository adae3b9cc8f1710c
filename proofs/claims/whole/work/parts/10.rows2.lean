/-! Each action of J is the machine's: what the constructors do, arrays, calls, ends. -/
variable {l : Launch} {G : j_G} {d mi pc n t : Nat} {L L' : j_L} {S S' : List Value} {σ σ' τ : j_St} {r : Option Value} {sw : List (Int32 × Nat)}
theorem j_rf_putr_ne {o s0 o' : Nat} {v : Nat} (h : o' ≠ o) : j_rf (j_putr σ o s0 v) o' = j_rf σ o' := by
  funext k
  show j_up σ.2.2.2.2.1 o s0 v o' k = _
  unfold j_up
  rw [if_neg (fun q => h q.1)]
  rfl
theorem j_rf_putr_eq {o s0 : Nat} {v : Nat} : j_rf (j_putr σ o s0 v) o s0 = v := by
  show j_up σ.2.2.2.2.1 o s0 v o s0 = _
  unfold j_up
  rw [if_pos ⟨rfl, rfl⟩]
theorem j_rf_putr_k {o s0 k : Nat} {v : Nat} (h : k ≠ s0) : j_rf (j_putr σ o s0 v) o k = j_rf σ o k := by
  show j_up σ.2.2.2.2.1 o s0 v o k = _
  unfold j_up
  rw [if_neg (fun q => h q.2)]
  rfl
theorem j_en_putr {o s0 o' : Nat} {v : Nat} (h : o' ≠ o) : j_en G (j_putr σ o s0 v) o' = j_en G σ o' := by
  have e1 : ∀ ci, j_fd G (j_putr σ o s0 v) ci o' = j_fd G σ ci o' := by
    intro ci
    unfold j_fd
    apply List.map_congr_left
    intro s' _
    unfold j_getf
    rw [j_rf_putr_ne h]
    rfl
  unfold j_en
  rw [j_rf_putr_ne h, e1]
  rfl
theorem j_ws_putF {ci o s0 x : Nat} (hw : j_wf σ) (hc : j_cl σ o = ci) (f1 : ci < 9) (hkd : j_kd ci s0 = 1) (hx : 1 ≤ x) : (j_ws G σ).set (o - 1) (j_ad G o, .inr (ci, (j_fd G σ ci o).set s0 (.ref (j_ad G x)))) = j_ws G (j_putr σ o s0 x) := by
  have e1 : (j_fd G σ ci o).set s0 (.ref (j_ad G x)) = j_fd G (j_putr σ o s0 x) ci o := by
    refine j_fd_set ?_ (fun s' hs' => ?_)
    · unfold j_getf
      rw [hkd]
      show j_tr G (j_rv (j_rf (j_putr σ o s0 x) o s0)) = _
      rw [j_rf_putr_eq]
      unfold j_rv
      rw [if_neg (by omega)]
      rfl
    · unfold j_getf
      rw [j_rf_putr_k hs']
      rfl
  have e2 : j_en G (j_putr σ o s0 x) o = .inr (ci, j_fd G (j_putr σ o s0 x) ci o) := j_en_obj (σ := j_putr σ o s0 x) hc f1
  rw [e1, ← e2]
  exact j_ws_set hw (by omega) rfl (fun o' ho' => j_en_putr ho')
theorem j_ws_puta {a k : Nat} {v : Int32} (hw : j_wf σ) (hc : j_cl σ a = 20) : (j_ws G σ).set (a - 1) (j_ad G a, .inl (G.2.1, j_len σ a, .inl (upd (j_M σ a) k v))) = j_ws G (j_put σ a k v) := by
  have e1 : upd (j_M σ a) k v = j_M (j_put σ a k v) a := by
    funext k'
    show _ = j_up σ.2.2.2.2.2 a k v a k'
    unfold upd j_up
    by_cases hk : k' = k
    · rw [if_pos hk, if_pos ⟨rfl, hk⟩]
    · rw [if_neg hk, if_neg (fun q => hk q.2)]
      rfl
  have e2 : j_en G (j_put σ a k v) a = .inl (G.2.1, j_len σ a, .inl (j_M (j_put σ a k v) a)) := j_en_arr (σ := j_put σ a k v) hc
  rw [e1, ← e2]
  exact j_ws_set hw (by omega) rfl (fun o' ho' => j_en_put ho')
theorem j_ws_putq {a k v : Nat} (hw : j_wf σ) (hc : j_cl σ a = 21) (hv : v ≠ 0) : (j_ws G σ).set (a - 1) (j_ad G a, .inl (G.2.2.1, j_len σ a, .inr (.inr (.inr (.inr (va_up (fun i => if j_rf σ a i = 0 then none else some (j_ad G (j_rf σ a i))) k (some (j_ad G v)))))))) = j_ws G (j_putr σ a k v) := by
  have e1 : va_up (fun i => if j_rf σ a i = 0 then none else some (j_ad G (j_rf σ a i))) k (some (j_ad G v)) = fun i' => if j_rf (j_putr σ a k v) a i' = 0 then none else some (j_ad G (j_rf (j_putr σ a k v) a i')) := by
    funext k'
    unfold va_up
    by_cases hk : k' = k
    · subst hk
      rw [if_pos rfl, j_rf_putr_eq, if_neg hv]
    · rw [if_neg hk, j_rf_putr_k hk]
  have e2 : j_en G (j_putr σ a k v) a = .inl (G.2.2.1, j_len σ a, .inr (.inr (.inr (.inr fun i' => if j_rf (j_putr σ a k v) a i' = 0 then none else some (j_ad G (j_rf (j_putr σ a k v) a i')))))) := j_en_ref (σ := j_putr σ a k v) hc
  rw [e1, ← e2]
  exact j_ws_set hw (by omega) rfl (fun o' ho' => j_en_putr ho')
/-- putfield of a final field, in its class's constructor -/
theorem j_r_putF {k ci s0 : Nat} (hd : j_code mi pc = some (.putfield k, n, t, sw)) (hl : n = pc + 3) (hf : j_fr mi k = some (ci, s0)) {o : Nat} {x : Nat} (hc : j_cl σ o = ci) (hkd : j_kd ci s0 = 1) (hx : 1 ≤ x) (hini : j_kind mi = 1 ∧ j_own mi = ci) (hk : j_V l G d mi n L S (j_putr σ o s0 x) r τ) : j_V l G d mi pc L (.ref x :: .ref o :: S) σ r τ := by
  obtain ⟨⟨f1, f2⟩, f3⟩ := j_fok _ (j_lk2_mem hf)
  dsimp only at f1 f2 f3
  refine j_full hd hl (fun {p e R s m args below meth c mc ms cc} C hb hdg H locs ls cells slots hR hS hL h1 h2 h3 => ?_)
  subst hl
  have hw := j_ws_at (G := G) hR.1 (o := o) (by omega)
  rw [j_en_obj hc f1] at hw
  have hSf := j_fSok ci f1 s0 f2
  unfold j_fS at hSf
  rw [hkd] at hSf
  obtain ⟨g1, g2, g3⟩ := hSf
  have hnar := j_isR_narrow g3 (j_ad G x)
  refine va_putF (own := j_on (j_own mi)) (ref := j_on ci) (k := s0) C.1.1 hb C.2.1.2.1 (j_wsW ci f1) (j_ty ci) (j_tyok ci f1) (j_nmok ci f1) C.2.1.1 C.2.1.2.2.1 hR.2.2.2 (j_D G σ) hS (o - 1) hw (j_vw ci f1) f2 (j_W_at C.2.1.2.1 f3 rfl) (fun y h => by rw [g1] at h; exact h) g2 (C.2.2.2.1 hini.1) (by rw [g1, hini.2]) (j_tyok ci f1 s0 f2) hnar.1 hnar.2 (by rw [j_fd_len]; exact f2) hdg (fun H1 locs1 hP1 hD1 hS1 => ?_)
  have hP2 : va_P G.1 vwCl ((j_ws G σ).set (o - 1) (j_ad G o, .inr (ci, (j_fd G σ ci o).set s0 (.ref (j_ad G x))))) H1 := hP1
  rw [j_ws_putF hR.1 hc f1 hkd hx] at hP2
  exact hk p e R s m args below meth c mc ms C H1 locs1 ls cells slots ⟨hR.1, hR.2.1, j_below C.2.2.2.2 hR hS hS1, hP2⟩ hS1 hL h1 h2 h3
-- arrays
theorem j_r_iaload (hd : j_code mi pc = some (.iaload, n, t, sw)) (hl : n = pc + 1) {a : Nat} {i : Int32} (hc : j_cl σ a = 20 ∨ j_cl σ a = 22) (hi : j_ix i (j_len σ a)) (hk : j_V l G d mi n L (.int (j_M σ a i.toNatClampNeg) :: S) σ r τ) : j_V l G d mi pc L (.int i :: .ref a :: S) σ r τ := by
  refine j_full hd hl (fun {p e R s m args below meth c mc ms cc} C hb hdg H locs ls cells slots hR hS hL h1 h2 h3 => ?_)
  subst hl
  rcases hc with hc | hc
  · have hw := j_ws_at (G := G) hR.1 (o := a) (by omega)
    rw [j_en_arr hc] at hw
    refine va_iald C.1.1 hb C.2.1.2.2.1 hR.2.2.2 (a - 1) 0 hw rfl (j_ix_in hi) hdg ?_
    exact hk p e R s m args below meth c mc ms C H locs ls cells slots hR hS hL h1 h2 h3
  · obtain ⟨x1, x2, x3⟩ := hR.2.1 a hc
    have hX : va_X (j_ad G a) (j_len σ a) (j_M σ a) _ H := x3.kept (hR.2.2.1 _ x2)
    obtain ⟨scr, y1, y2, y3, y4, y5⟩ := hX
    have hin := j_ix_in hi
    have hlt : i.toNatClampNeg < j_len σ a := Nat.not_le.mp fun q => hin (Or.inr q)
    refine W.iald (v := .int (j_M σ a i.toNatClampNeg)) C.1.1 hb y1 y2 y3 (by rw [y4]; exact hin) (y5 _ hlt) rfl rfl hdg ?_
    exact hk p e R s m args below meth c mc ms C H locs ls cells slots hR hS hL h1 h2 h3
theorem j_r_iastore (hd : j_code mi pc = some (.iastore, n, t, sw)) (hl : n = pc + 1) {a : Nat} {i v : Int32} (hc : j_cl σ a = 20) (hi : j_ix i (j_len σ a)) (hk : j_V l G d mi n L S (j_put σ a i.toNatClampNeg v) r τ) : j_V l G d mi pc L (.int v :: .int i :: .ref a :: S) σ r τ := by
  refine j_full hd hl (fun {p e R s m args below meth c mc ms cc} C hb hdg H locs ls cells slots hR hS hL h1 h2 h3 => ?_)
  subst hl
  have hw := j_ws_at (G := G) hR.1 (o := a) (by omega)
  rw [j_en_arr hc] at hw
  refine va_iast C.1.1 hb C.2.1.2.2.1 hR.2.2.2 (j_D G σ) hS (a - 1) 0 hw rfl (j_ix_in hi) hdg (fun H1 locs1 hP1 hD1 hS1 => ?_)
  rw [j_ws_puta hR.1 hc] at hP1
  exact hk p e R s m args below meth c mc ms C H1 locs1 ls cells slots ⟨hR.1, j_stt_put hR.2.1 (by omega), j_below C.2.2.2.2 hR hS hS1, hP1⟩ hS1 hL h1 h2 h3
theorem j_r_alen (hd : j_code mi pc = some (.arraylength, n, t, sw)) (hl : n = pc + 1) {a : Nat} (hc : j_cl σ a = 20 ∨ j_cl σ a = 22 ∨ j_cl σ a = 21) (hk : j_V l G d mi n L (.int (nI (j_len σ a)) :: S) σ r τ) : j_V l G d mi pc L (.ref a :: S) σ r τ := by
  refine j_full hd hl (fun {p e R s m args below meth c mc ms cc} C hb hdg H locs ls cells slots hR hS hL h1 h2 h3 => ?_)
  subst hl
  rcases hc with hc | hc | hc
  · have hw := j_ws_at (G := G) hR.1 (o := a) (by omega)
    rw [j_en_arr hc] at hw
    refine va_alen C.1.1 hb C.2.1.2.2.1 hR.2.2.2 (a - 1) 0 hw rfl rfl hdg ?_
    exact hk p e R s m args below meth c mc ms C H locs ls cells slots hR hS hL h1 h2 h3
  · obtain ⟨x1, x2, x3⟩ := hR.2.1 a hc
    have hX : va_X (j_ad G a) (j_len σ a) (j_M σ a) _ H := x3.kept (hR.2.2.1 _ x2)
    obtain ⟨scr, y1, y2, y3, y4, y5⟩ := hX
    refine W.alen (n := nI (j_len σ a)) C.1.1 hb y1 y2 (by rw [y4]; rfl) rfl rfl hdg ?_
    exact hk p e R s m args below meth c mc ms C H locs ls cells slots hR hS hL h1 h2 h3
  · have hw := j_ws_at (G := G) hR.1 (o := a) (by omega)
    rw [j_en_ref hc] at hw
    refine va_alen C.1.1 hb C.2.1.2.2.1 hR.2.2.2 (a - 1) 1 hw rfl rfl hdg ?_
    exact hk p e R s m args below meth c mc ms C H locs ls cells slots hR hS hL h1 h2 h3
theorem j_r_aaload (hd : j_code mi pc = some (.aaload, n, t, sw)) (hl : n = pc + 1) {a : Nat} {i : Int32} (hc : j_cl σ a = 21) (hi : j_ix i (j_len σ a)) (hk : j_V l G d mi n L (j_rv (j_rf σ a i.toNatClampNeg) :: S) σ r τ) : j_V l G d mi pc L (.int i :: .ref a :: S) σ r τ := by
  refine j_full hd hl (fun {p e R s m args below meth c mc ms cc} C hb hdg H locs ls cells slots hR hS hL h1 h2 h3 => ?_)
  subst hl
  have hw := j_ws_at (G := G) hR.1 (o := a) (by omega)
  rw [j_en_ref hc] at hw
  refine va_aldq C.1.1 hb C.2.1.2.2.1 hR.2.2.2 (a - 1) 1 hw rfl (j_ix_in hi) hdg ?_
  have hW := hk p e R s m args below meth c mc ms C H locs ls cells slots hR hS hL h1 h2 h3
  rw [List.map_cons, j_tr_rv] at hW
  exact hW
theorem j_r_aastore (hd : j_code mi pc = some (.aastore, n, t, sw)) (hl : n = pc + 1) {a v : Nat} {i : Int32} (hc : j_cl σ a = 21) (hv : j_cl σ v = 4) (hi : j_ix i (j_len σ a)) (hk : j_V l G d mi n L S (j_putr σ a i.toNatClampNeg v) r τ) : j_V l G d mi pc L (.ref v :: .int i :: .ref a :: S) σ r τ := by
  refine j_full hd hl (fun {p e R s m args below meth c mc ms cc} C hb hdg H locs ls cells slots hR hS hL h1 h2 h3 => ?_)
  subst hl
  have hw := j_ws_at (G := G) hR.1 (o := a) (by omega)
  rw [j_en_ref hc] at hw
  have hwv := j_ws_at (G := G) hR.1 (o := v) (by omega)
  rw [j_en_obj hv (by omega)] at hwv
  refine va_astq C.1.1 hb C.2.1.2.2.1 hR.2.2.2 (j_D G σ) hS (a - 1) 1 (v - 1) 4 (r := (RX4, TX4, 2)) hw rfl hwv rfl (j_ix_in hi) hdg (fun H1 locs1 hP1 hD1 hS1 => ?_)
  have hv1 : v ≠ 0 := by have := (hR.1.2 v (by omega)).1; omega
  rw [j_ws_putq hR.1 hc hv1] at hP1
  exact hk p e R s m args below meth c mc ms C H1 locs1 ls cells slots ⟨hR.1, hR.2.1, j_below C.2.2.2.2 hR hS hS1, hP1⟩ hS1 hL h1 h2 h3
-- what is made
theorem j_size {s : State} {H : Heap} {cells slots : Nat} {p : Program} {e : Env} {R : Room} {m : MethodId} {args : Array Value} {below : List Frame} {meth : Method} {c : Code} {locs : List Loc} {Q : State → Prop} {g : JFrame} (hR : j_Rep G σ s H) (hS : va_S (j_Ad G) s.heap H locs) (hB : j_B G ≤ s.heap.size) (h1 : s.heap.size + cells = j_B G + j_n σ) (k : H.size = j_B G + j_n σ → W p l e R s m args below meth c H locs cells slots Q g) : W p l e R s m args below meth c H locs cells slots Q g := by
  intro T hT X
  have h2 := X.heapSize
  rw [hT] at h2
  refine k ?_ T hT X
  by_cases h0 : j_n σ = 0
  · have := hS.1
    omega
  · have h3 := (hR.2.2.2 _ _ (j_ws_get (G := G) (σ := σ) (j_n σ - 1) (by omega))).lt
    dsimp only at h3
    omega
theorem j_wf_new {c N : Nat} (h : j_wf σ) (hn : j_n σ < 900) (hc : c < 9) : j_wf (j_new σ c N) := by
  refine ⟨by show σ.1 + 1 ≤ 900; exact hn, fun o ho => ?_⟩
  have e : j_cl (j_new σ c N) o = j_up1 σ.2.2.1 (σ.1 + 1) c o := rfl
  unfold j_up1 at e
  by_cases h1 : o = σ.1 + 1
  · rw [if_pos h1] at e
    refine ⟨by omega, by show o ≤ σ.1 + 1; omega, Or.inl (by rw [e]; exact hc)⟩
  · rw [if_neg h1] at e
    obtain ⟨a1, a2, a3⟩ := h.2 o (by rw [e] at ho; exact ho)
    exact ⟨a1, Nat.le_succ_of_le a2, by rw [e]; exact a3⟩
theorem j_wf_newa {c N : Nat} (h : j_wf σ) (hn : j_n σ < 900) (hc : c = 20 ∨ c = 21) : j_wf (j_newa σ c N) := by
  refine ⟨by show σ.1 + 1 ≤ 900; exact hn, fun o ho => ?_⟩
  have e : j_cl (j_newa σ c N) o = j_up1 σ.2.2.1 (σ.1 + 1) c o := rfl
  unfold j_up1 at e
  by_cases h1 : o = σ.1 + 1
  · rw [if_pos h1] at e
    refine ⟨by omega, by show o ≤ σ.1 + 1; omega, Or.inr (by rw [e]; omega)⟩
  · rw [if_neg h1] at e
    obtain ⟨a1, a2, a3⟩ := h.2 o (by rw [e] at ho; exact ho)
    exact ⟨a1, Nat.le_succ_of_le a2, by rw [e]; exact a3⟩
theorem j_stt_new {s : State} {c N : Nat} (h : j_stt G σ s) (hn : j_n σ < 900) (hc : c ≠ 22) : j_stt G (j_new σ c N) s := by
  intro o ho
  have e : j_cl (j_new σ c N) o = j_up1 σ.2.2.1 (σ.1 + 1) c o := rfl
  unfold j_up1 at e
  by_cases h1 : o = σ.1 + 1
  · rw [if_pos h1] at e; rw [e] at ho; exact absurd ho hc
  · rw [if_neg h1] at e
    have h2 := h o (by rw [e] at ho; exact ho)
    have e2 : j_M (j_new σ c N) o = j_M σ o := by
      show j_up1 σ.2.2.2.2.2 (σ.1 + 1) _ o = _
      unfold j_up1
      rw [if_neg h1]; rfl
    refine ⟨h2.1, h2.2.1, ?_⟩
    rw [e2]
    exact h2.2.2
theorem j_stt_newa {s : State} {c N : Nat} (h : j_stt G σ s) (hn : j_n σ < 900) (hc : c ≠ 22) : j_stt G (j_newa σ c N) s := by
  intro o ho
  have e : j_cl (j_newa σ c N) o = j_up1 σ.2.2.1 (σ.1 + 1) c o := rfl
  unfold j_up1 at e
  by_cases h1 : o = σ.1 + 1
  · rw [if_pos h1] at e; rw [e] at ho; exact absurd ho hc
  · rw [if_neg h1] at e
    have h2 := h o (by rw [e] at ho; exact ho)
    have e2 : j_M (j_newa σ c N) o = j_M σ o := by
      show j_up1 σ.2.2.2.2.2 (σ.1 + 1) _ o = _
      unfold j_up1
      rw [if_neg h1]; rfl
    have e3 : j_len (j_newa σ c N) o = j_len σ o := by
      show j_up1 σ.2.2.2.1 (σ.1 + 1) _ o = _
      unfold j_up1
      rw [if_neg h1]; rfl
    refine ⟨h2.1, h2.2.1, ?_⟩
    rw [e2, e3]
    exact h2.2.2
theorem j_en_new {c N o' : Nat} (h : o' ≠ j_n σ + 1) : j_en G (j_new σ c N) o' = j_en G σ o' := by
  have h' : o' ≠ σ.1 + 1 := h
  have e1 : j_M (j_new σ c N) o' = j_M σ o' := by
    show j_up1 σ.2.2.2.2.2 (σ.1 + 1) _ o' = _
    unfold j_up1; rw [if_neg h']; rfl
  have e2 : j_rf (j_new σ c N) o' = j_rf σ o' := by
    show j_up1 σ.2.2.2.2.1 (σ.1 + 1) _ o' = _
    unfold j_up1; rw [if_neg h']; rfl
  have e3 : j_cl (j_new σ c N) o' = j_cl σ o' := by
    show j_up1 σ.2.2.1 (σ.1 + 1) _ o' = _
    unfold j_up1; rw [if_neg h']; rfl
  have e4 : ∀ ci, j_fd G (j_new σ c N) ci o' = j_fd G σ ci o' := by
    intro ci
    unfold j_fd
    apply List.map_congr_left
    intro s' _
    unfold j_getf
    rw [e1, e2]
  unfold j_en
  rw [e1, e2, e3, e4]
  rfl
theorem j_en_newa {c N o' : Nat} (h : o' ≠ j_n σ + 1) : j_en G (j_newa σ c N) o' = j_en G σ o' := by
  have h' : o' ≠ σ.1 + 1 := h
  have e1 : j_M (j_newa σ c N) o' = j_M σ o' := by
    show j_up1 σ.2.2.2.2.2 (σ.1 + 1) _ o' = _
    unfold j_up1; rw [if_neg h']; rfl
  have e2 : j_rf (j_newa σ c N) o' = j_rf σ o' := by
    show j_up1 σ.2.2.2.2.1 (σ.1 + 1) _ o' = _
    unfold j_up1; rw [if_neg h']; rfl
  have e3 : j_cl (j_newa σ c N) o' = j_cl σ o' := by
    show j_up1 σ.2.2.1 (σ.1 + 1) _ o' = _
    unfold j_up1; rw [if_neg h']; rfl
  have e5 : j_len (j_newa σ c N) o' = j_len σ o' := by
    show j_up1 σ.2.2.2.1 (σ.1 + 1) _ o' = _
    unfold j_up1; rw [if_neg h']; rfl
  have e4 : ∀ ci, j_fd G (j_newa σ c N) ci o' = j_fd G σ ci o' := by
    intro ci
    unfold j_fd
    apply List.map_congr_left
    intro s' _
    unfold j_getf
    rw [e1, e2]
  unfold j_en
  rw [e1, e2, e3, e4, e5]
theorem j_fresh (τ : j_St) (c s0 o : Nat) (h1 : j_M τ o = fun _ => nI 0) (h2 : j_rf τ o = fun _ => 0) : j_getf c s0 τ o = match j_kd c s0 with
    | 1 => .null
    | 2 => .null
    | _ => .int (nI 0) := by
  unfold j_getf
  rw [h1, h2]
  generalize j_kd c s0 = kd
  match kd with
  | 0 => rfl
  | 1 => rfl
  | 2 => rfl
  | _ + 3 => rfl
theorem j_r_new {k ci : Nat} (hd : j_code mi pc = some (.new k, n, t, sw)) (hl : n = pc + 3) (hf : j_nr mi k = some ci) (hn : j_n σ < 900) (hm : j_n σ + 1 ≤ j_n τ ∧ j_sl σ + j_nf ci ≤ j_sl τ) (hk : j_V l G d mi n L (.ref (j_n σ + 1) :: S) (j_new σ ci (j_nf ci)) r τ) : j_V l G d mi pc L S σ r τ := by
  obtain ⟨f1, f2⟩ := j_nok _ (j_lk2_mem hf)
  dsimp only at f1 f2
  refine j_full hd hl (fun {p e R s m args below meth c mc ms cc} C hb hdg H locs ls cells slots hR hS hL h1 h2 h3 => ?_)
  subst hl
  obtain ⟨z, z1, z2⟩ := h3
  have hB := C.2.2.2.2
  have hro := C.2.2.1
  refine j_size hR hS hB h1 (fun hsz => ?_)
  have hM0 : j_M (j_new σ ci (j_nf ci)) (j_n σ + 1) = fun _ => nI 0 := by
    show j_up1 σ.2.2.2.2.2 (σ.1 + 1) _ (σ.1 + 1) = _
    unfold j_up1; rw [if_pos rfl]
  have hF0 : j_rf (j_new σ ci (j_nf ci)) (j_n σ + 1) = fun _ => 0 := by
    show j_up1 σ.2.2.2.2.1 (σ.1 + 1) _ (σ.1 + 1) = _
    unfold j_up1; rw [if_pos rfl]
  have hC0 : j_cl (j_new σ ci (j_nf ci)) (j_n σ + 1) = ci := by
    show j_up1 σ.2.2.1 (σ.1 + 1) _ (σ.1 + 1) = _
    unfold j_up1; rw [if_pos rfl]
  have hfs : ∀ j, j < j_nf ci → defaultValue (j_ty ci j) = vp_V (j_fd G (j_new σ ci (j_nf ci)) ci (j_n σ + 1)) j := by
    intro j hj
    unfold vp_V
    rw [List.getD_eq_getElem?_getD, j_fd_get hj, j_fresh _ _ _ _ hM0 hF0]
    have hSf := (j_fSok ci f1 j hj).2
    generalize j_kd ci j = kd at hSf ⊢
    generalize j_ty ci j = ty at hSf ⊢
    match kd, hSf with
    | 0, h => rw [h.2]; rfl
    | 1, h => cases ty <;> first | rfl | (have := h.2; cases this)
    | 2, h => cases ty <;> first | rfl | (have := h.2; cases this)
    | 3, h => rw [h.2]; rfl
    | _ + 4, h => rw [h.2]; rfl
  have had : H.size = j_ad G (j_n σ + 1) := by
    unfold j_ad
    rw [if_pos (by omega), hsz]
    rfl
  have hw1 : cells + 1 ≤ R.cells := by omega
  have hw2 : slots + j_nf ci ≤ R.slots := by omega
  have hKn := C.2.1.2.2.1.1 ci _ (j_vw ci f1)
  refine W.newcK (own := j_on (j_own mi)) (C := j_on ci) C.1.1 hb C.2.1.1 (j_W_at C.2.1.2.1 f2 rfl) (j_W_at C.2.1.2.1 (j_inst ci f1) rfl) (j_W_at C.2.1.2.1 (j_init ci f1) rfl) rfl hdg hw1 hw2 hKn.2.1 rfl fun H1 kC hkC e1 z1' o1 => ?_
  have hk1 : ∀ (k : Nat) (x : Nat × va_E), (j_ws G σ)[k]? = some x → H1[x.1]? = H[x.1]? := fun k x hx => o1 x.1 ((hR.2.2.2 k x hx).lt)
  have hP1 : va_P G.1 vwCl (j_ws G σ ++ [(H.size, .inr (ci, j_fd G (j_new σ ci (j_nf ci)) ci (j_n σ + 1)))]) H1 := (hR.2.2.2.kept hk1).app (fun k x hx => by
    have hz : k < 1 := (List.getElem?_eq_some_iff.mp hx).1
    rw [show k = 0 by omega] at hx
    cases hx
    exact ⟨_, j_vw ci f1, (u_born (j_ty ci) C.2.1.2.1 (j_wsW ci f1) hKn hkC e1 (j_tyok ci f1)).to hfs⟩)
  rw [hsz, ← j_en_obj (G := G) hC0 f1, j_ws_push rfl (fun o' ho' => j_en_new ho')] at hP1
  rw [had]
  refine hk p e R s m args below meth c mc ms C H1 locs ls (cells + 1) (slots + j_nf ci) ⟨j_wf_new hR.1 hn f1, j_stt_new hR.2.1 hn (by omega), fun q hq => ?_, hP1⟩ ⟨by rw [z1']; have := hS.1; omega, fun q a1 a2 => (o1 q (Nat.lt_of_lt_of_le a1 hS.1)).trans (hS.2.1 q a1 a2), hS.2.2⟩ hL (by show _ = _ + (σ.1 + 1); have : j_n σ = σ.1 := rfl; omega) h2 ⟨z, by show _ = σ.2.1 + _; have : j_sl σ = σ.2.1 := rfl; omega, z2⟩
  rw [o1 q (by omega)]
  exact hR.2.2.1 q hq
theorem j_r_newa (hd : j_code mi pc = some (.newarray .int, n, t, sw)) (hl : n = pc + 2) {x : Int32} (hn : j_n σ < 900) (hx : j_ix x 1000) (hm : j_n σ + 1 ≤ j_n τ ∧ j_sl σ + x.toNatClampNeg ≤ j_sl τ) (hk : j_V l G d mi n L (.ref (j_n σ + 1) :: S) (j_newa σ 20 x.toNatClampNeg) r τ) : j_V l G d mi pc L (.int x :: S) σ r τ := by
  refine j_full hd hl (fun {p e R s m args below meth c mc ms cc} C hb hdg H locs ls cells slots hR hS hL h1 h2 h3 => ?_)
  subst hl
  obtain ⟨z, z1, z2⟩ := h3
  have hB := C.2.2.2.2
  have hro := C.2.2.1
  refine j_size hR hS hB h1 (fun hsz => ?_)
  generalize hN : x.toNatClampNeg = N at hm hk
  have hin := j_ix_in hx
  have hN2 : N < 1000 := by rw [← hN]; exact Nat.not_le.mp fun q => hin (Or.inr q)
  have hM0 : j_M (j_newa σ 20 N) (j_n σ + 1) = fun _ => nI 0 := by
    show j_up1 σ.2.2.2.2.2 (σ.1 + 1) _ (σ.1 + 1) = _
    unfold j_up1; rw [if_pos rfl]
  have hC0 : j_cl (j_newa σ 20 N) (j_n σ + 1) = 20 := by
    show j_up1 σ.2.2.1 (σ.1 + 1) _ (σ.1 + 1) = _
    unfold j_up1; rw [if_pos rfl]
  have hN0 : j_len (j_newa σ 20 N) (j_n σ + 1) = N := by
    show j_up1 σ.2.2.2.1 (σ.1 + 1) _ (σ.1 + 1) = _
    unfold j_up1; rw [if_pos rfl]
  have had : H.size = j_ad G (j_n σ + 1) := by
    unfold j_ad
    rw [if_pos (by omega), hsz]
    rfl
  refine va_newaK (atype := .int) (N := N) C.1.1 hb (j_W_at C.2.1.2.1 j_objok.2.2 rfl) rfl hdg rfl (fun q => hin (Or.inl q)) hN (by show N * 4 ≤ _; omega) (by omega) (by omega) rfl fun H1 cA e1 z1' o1 hAr hNm => ?_
  have hcA : cA = G.2.1 := by
    have h5 := (C.2.1.2.2.1.2 0 _ rfl).2
    have h6 : s.vm.findClass "[I" = some G.2.1 := va_nm_int h5
    exact Option.some.inj (hNm.symm.trans h6)
  subst hcA
  have hk1 : ∀ (k : Nat) (x : Nat × va_E), (j_ws G σ)[k]? = some x → H1[x.1]? = H[x.1]? := fun k x hx => o1 x.1 ((hR.2.2.2 k x hx).lt)
  have hP1 : va_P G.1 vwCl (j_ws G σ ++ [(H.size, .inl (G.2.1, N, .inl fun _ => nI 0))]) H1 := (hR.2.2.2.kept hk1).app (fun k x hx => by
    have hz : k < 1 := (List.getElem?_eq_some_iff.mp hx).1
    rw [show k = 0 by omega] at hx
    cases hx
    show H1[H.size]? = some (vp_cell _ _)
    exact e1)
  have e2 : ((.inl (G.2.1, N, .inl fun _ => nI 0) : va_E)) = j_en G (j_newa σ 20 N) (j_n σ + 1) := by
    rw [j_en_arr hC0, hM0, hN0]
  rw [hsz, e2, j_ws_push rfl (fun o' ho' => j_en_newa ho')] at hP1
  rw [had]
  refine hk p e R s m args below meth c mc ms C H1 locs ls (cells + 1) (slots + N) ⟨j_wf_newa hR.1 hn (Or.inl rfl), j_stt_newa hR.2.1 hn (by omega), fun q hq => ?_, hP1⟩ ⟨by rw [z1']; have := hS.1; omega, fun q a1 a2 => (o1 q (Nat.lt_of_lt_of_le a1 hS.1)).trans (hS.2.1 q a1 a2), hS.2.2⟩ hL (by show _ = _ + (σ.1 + 1); have : j_n σ = σ.1 := rfl; omega) h2 ⟨z, by show _ = σ.2.1 + _; have : j_sl σ = σ.2.1 := rfl; omega, z2⟩
  rw [o1 q (by omega)]
  exact hR.2.2.1 q hq
theorem j_r_anewa {k : Nat} (hd : j_code mi pc = some (.anewarray k, n, t, sw)) (hl : n = pc + 3) (hcl : Cond.classLink (j_on (j_own mi)) k "WhiffCoins$Sheet" ∈ lw_tbl) {x : Int32} (hn : j_n σ < 900) (hx : j_ix x 1000) (hm : j_n σ + 1 ≤ j_n τ ∧ j_sl σ + x.toNatClampNeg ≤ j_sl τ) (hk : j_V l G d mi n L (.ref (j_n σ + 1) :: S) (j_newa σ 21 x.toNatClampNeg) r τ) : j_V l G d mi pc L (.int x :: S) σ r τ := by
  refine j_full hd hl (fun {p e R s m args below meth c mc ms cc} C hb hdg H locs ls cells slots hR hS hL h1 h2 h3 => ?_)
  subst hl
  obtain ⟨z, z1, z2⟩ := h3
  have hB := C.2.2.2.2
  have hro := C.2.2.1
  refine j_size hR hS hB h1 (fun hsz => ?_)
  generalize hN : x.toNatClampNeg = N at hm hk
  have hin := j_ix_in hx
  have hN2 : N < 1000 := by rw [← hN]; exact Nat.not_le.mp fun q => hin (Or.inr q)
  have hF0 : j_rf (j_newa σ 21 N) (j_n σ + 1) = fun _ => 0 := by
    show j_up1 σ.2.2.2.2.1 (σ.1 + 1) _ (σ.1 + 1) = _
    unfold j_up1; rw [if_pos rfl]
  have hC0 : j_cl (j_newa σ 21 N) (j_n σ + 1) = 21 := by
    show j_up1 σ.2.2.1 (σ.1 + 1) _ (σ.1 + 1) = _
    unfold j_up1; rw [if_pos rfl]
  have hN0 : j_len (j_newa σ 21 N) (j_n σ + 1) = N := by
    show j_up1 σ.2.2.2.1 (σ.1 + 1) _ (σ.1 + 1) = _
    unfold j_up1; rw [if_pos rfl]
  have had : H.size = j_ad G (j_n σ + 1) := by
    unfold j_ad
    rw [if_pos (by omega), hsz]
    rfl
  have hh := (C.2.1.2.2.1.2 1 _ rfl).2
  obtain ⟨kQ, compQ, q1, q2, q3, q4⟩ := hh
  refine W.anew (own := j_on (j_own mi)) (C := "WhiffCoins$Sheet") C.1.1 hb C.2.1.1 (j_W_at C.2.1.2.1 hcl rfl) (va_AO.use C.2.1.2.2.2.1) rfl hdg rfl (fun q => hin (Or.inl q)) (by rw [hN]; omega) (by omega) (by rw [hN]; omega) fun cA kA comp f1 f2 f3 f4 => ?_
  have hcA : cA = G.2.2.1 := Option.some.inj (f1.symm.trans q4)
  subst hcA
  generalize hH1 : H.push ({ cls := G.2.2.1, slots := Array.replicate x.toNatClampNeg .null, vm := .none } : Cell) = H1
  have z1' : H1.size = H.size + 1 := by rw [← hH1, Array.size_push]
  have e1 : H1[H.size]? = some (arrV G.2.2.1 N (fun _ => .null)) := by rw [← hH1, Array.getElem?_push_size, ← arrV_new, hN]
  have o1 : ∀ q : Nat, q < H.size → H1[q]? = H[q]? := fun q hq => by rw [← hH1, Array.getElem?_push, if_neg (Nat.ne_of_lt hq)]
  have hk1 : ∀ (k : Nat) (x : Nat × va_E), (j_ws G σ)[k]? = some x → H1[x.1]? = H[x.1]? := fun k x hx => o1 x.1 ((hR.2.2.2 k x hx).lt)
  have hP1 : va_P G.1 vwCl (j_ws G σ ++ [(H.size, .inl (G.2.2.1, N, .inr (.inr (.inr (.inr fun _ => none)))))]) H1 := (hR.2.2.2.kept hk1).app (fun k x hx => by
    have hz : k < 1 := (List.getElem?_eq_some_iff.mp hx).1
    rw [show k = 0 by omega] at hx
    cases hx
    show H1[H.size]? = some (vp_cell _ _)
    rw [vp_cell_q]
    exact e1)
  have e2 : ((.inl (G.2.2.1, N, .inr (.inr (.inr (.inr fun _ => none)))) : va_E)) = j_en G (j_newa σ 21 N) (j_n σ + 1) := by
    rw [j_en_ref hC0, hF0, hN0]
    simp
  rw [hsz, e2, j_ws_push rfl (fun o' ho' => j_en_newa ho')] at hP1
  rw [had, hN]
  refine hk p e R s m args below meth c mc ms C H1 locs ls (cells + 1) (slots + N) ⟨j_wf_newa hR.1 hn (Or.inr rfl), j_stt_newa hR.2.1 hn (by omega), fun q hq => ?_, hP1⟩ ⟨by rw [z1']; have := hS.1; omega, fun q a1 a2 => (o1 q (Nat.lt_of_lt_of_le a1 hS.1)).trans (hS.2.1 q a1 a2), hS.2.2⟩ hL (by show _ = _ + (σ.1 + 1); have : j_n σ = σ.1 := rfl; omega) h2 ⟨z, by show _ = σ.2.1 + _; have : j_sl σ = σ.2.1 := rfl; omega, z2⟩
  rw [o1 q (by omega)]
  exact hR.2.2.1 q hq

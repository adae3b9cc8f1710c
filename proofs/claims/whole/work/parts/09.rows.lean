/-! Each action of J is the machine's. -/
theorem j_nth_mem {α : Type} : ∀ {l : List α} {n : Nat} {a : α}, j_nth l n = some a → a ∈ l
  | [], _, _, h => by simp [j_nth] at h
  | b :: l, 0, a, h => by simp only [j_nth, Option.some.injEq] at h; subst h; exact List.mem_cons_self
  | b :: l, n + 1, a, h => List.mem_cons_of_mem _ (j_nth_mem (l := l) (n := n) h)
theorem j_lk_mem {α : Type} : ∀ {l : List (Nat × α)} {k : Nat} {e : α}, j_lk l k = some e → (k, e) ∈ l
  | [], _, _, h => by simp [j_lk] at h
  | (p, x) :: l, k, e, h => by
    unfold j_lk at h
    split at h
    · rename_i hb
      cases h
      rw [Nat.eq_of_beq_eq_true hb]
      exact List.mem_cons_self
    · exact List.mem_cons_of_mem _ (j_lk_mem h)
theorem j_lk2_mem {α : Type} : ∀ {l : List ((Nat × Nat) × α)} {o k : Nat} {e : α}, j_lk2 l o k = some e → ((o, k), e) ∈ l
  | [], _, _, _, h => by simp [j_lk2] at h
  | ((p, x), y) :: l, o, k, e, h => by
    unfold j_lk2 at h
    split at h
    · rename_i hb
      cases h
      rw [Bool.and_eq_true] at hb
      rw [Nat.eq_of_beq_eq_true hb.1, Nat.eq_of_beq_eq_true hb.2]
      exact List.mem_cons_self
    · exact List.mem_cons_of_mem _ (j_lk2_mem h)
theorem j_dec {mi pc : Nat} {e : j_CE} (h : j_code mi pc = some e) : ∃ q, j_m mi = some q ∧ decode (j_b q) pc = .ok (e.1, e.2.1 - pc) ∧ pc < e.2.1 ∧ j_tok pc (j_ml mi) e = true ∧ j_lenk (pc, e) = true := by
  unfold j_code at h
  split at h
  · rename_i q hq
    have hm := j_nth_mem (show j_nth j_mt mi = some q from hq)
    have hl := j_lk_mem h
    have h1 := List.all_eq_true.mp (j_eall q hm) _ hl
    have h2 := List.all_eq_true.mp (j_lall q hm) _ hl
    unfold j_eok at h1
    simp only [Bool.and_eq_true, decide_eq_true_eq] at h1
    refine ⟨q, hq, h1.1.1, h1.1.2, ?_, h2⟩
    unfold j_ml
    rw [hq]
    exact h1.2
  · cases h
def j_Qc (G : j_G) (r : Option Value) (τ : j_St) : Array Value → State → Outcome → State → Prop := fun _ st oc t => oc = .returned (r.map (j_tr G)) ∧ j_Rep G τ t t.heap ∧ t.heap.size = j_B G + j_n τ ∧ va_F (j_Ad G) st t
def j_Cx (G : j_G) (mi d mc ms : Nat) (p : Program) (R : Room) (s : State) (m : MethodId) (args : Array Value) (meth : Method) (c : Code) : Prop :=
  (p.tables.exec = Jvm.exec ∧ (∃ q, j_m mi = some q ∧ c.code = j_b q) ∧ c.maxLocals = j_ml mi ∧ meth.sig.returnType = j_rt mi ∧ meth.locks = false) ∧ (s.vm.findClass (j_on (j_own mi)) = some m.cls ∧ (∀ w ∈ j_W, w.before args s = true) ∧ j_K G s) ∧ (d + 10 ≤ R.frames ∧ 64 * d + 500 ≤ R.locals ∧ mc ≤ R.cells ∧ ms ≤ R.slots) ∧ (j_kind mi = 1 → meth.name = "<init>") ∧ j_B G ≤ s.heap.size
def j_V (l : Launch) (G : j_G) (d mi pc : Nat) (L : j_L) (S : List Value) (σ : j_St) (r : Option Value) (τ : j_St) : Prop :=
  ∀ (p : Program) (e : Env) (R : Room) (s : State) (m : MethodId) (args : Array Value) (below : List Frame) (meth : Method) (c : Code) (mc ms : Nat), j_Cx G mi d mc ms p R s m args meth c →
  ∀ (H : Heap) (locs : List Loc) (ls : Array Slot) (cells slots : Nat), j_Rep G σ s H → va_S (j_Ad G) s.heap H locs → j_LH G ls (j_ml mi) L → s.heap.size + cells = j_B G + j_n σ → s.heap.size + mc = j_B G + j_n τ → (∃ z, z + slots = j_sl σ ∧ z + ms = j_sl τ) →
    W p l e R s m args below meth c H locs cells slots (MQ below (j_Qc G r τ) args s mc ms (j_Ad G)) (F0 m pc ls (S.map (j_tr G)))
variable {l : Launch} {G : j_G} {d mi pc n t : Nat} {L L' : j_L} {S S' : List Value} {σ σ' τ : j_St} {r : Option Value} {sw : List (Int32 × Nat)}
/-- a step that moves neither heap nor locals -/
theorem j_simple {i : Instr} {len pc' : Nat} (hd : j_code mi pc = some (i, n, t, sw)) (hl : n = pc + len) (hk : j_V l G d mi pc' L S' σ r τ)
    (row : ∀ {p : Program} {e : Env} {R : Room} {s : State} {m : MethodId} {args : Array Value} {below : List Frame} {meth : Method} {c : Code} {H : Heap} {locs : List Loc} {ls : Array Slot} {cells slots : Nat} {Q : State → Prop} {cc : ByteArray}, p.tables.exec = Jvm.exec → c.code = cc → decode cc pc = .ok (i, len) → j_LH G ls (j_ml mi) L → W p l e R s m args below meth c H locs cells slots Q (F0 m pc' ls (S'.map (j_tr G))) → W p l e R s m args below meth c H locs cells slots Q (F0 m pc ls (S.map (j_tr G)))) : j_V l G d mi pc L S σ r τ := by
  intro p e R s m args below meth c mc ms C H locs ls cells slots hR hS hL h1 h2 h3
  obtain ⟨q, hq, hdc, -⟩ := j_dec hd
  obtain ⟨q', hq', hb⟩ := C.1.2.1
  cases hq.symm.trans hq'
  refine row C.1.1 hb ?_ hL (hk p e R s m args below meth c mc ms C H locs ls cells slots hR hS hL h1 h2 h3)
  rw [hdc, hl, Nat.add_sub_cancel_left]
/-- a step that sets a local -/
theorem j_store {i : Instr} {len pc' : Nat} (hd : j_code mi pc = some (i, n, t, sw)) (hl : n = pc + len) (hk : j_V l G d mi pc' L' S' σ r τ)
    (row : ∀ {p : Program} {e : Env} {R : Room} {s : State} {m : MethodId} {args : Array Value} {below : List Frame} {meth : Method} {c : Code} {H : Heap} {locs : List Loc} {ls : Array Slot} {cells slots : Nat} {Q : State → Prop} {cc : ByteArray}, p.tables.exec = Jvm.exec → c.code = cc → decode cc pc = .ok (i, len) → j_LH G ls (j_ml mi) L → (∀ ls' : Array Slot, j_LH G ls' (j_ml mi) L' → W p l e R s m args below meth c H locs cells slots Q (F0 m pc' ls' (S'.map (j_tr G)))) → W p l e R s m args below meth c H locs cells slots Q (F0 m pc ls (S.map (j_tr G)))) : j_V l G d mi pc L S σ r τ := by
  intro p e R s m args below meth c mc ms C H locs ls cells slots hR hS hL h1 h2 h3
  obtain ⟨q, hq, hdc, -⟩ := j_dec hd
  obtain ⟨q', hq', hb⟩ := C.1.2.1
  cases hq.symm.trans hq'
  refine row C.1.1 hb ?_ hL (fun ls' hL' => hk p e R s m args below meth c mc ms C H locs ls' cells slots hR hS hL' h1 h2 h3)
  rw [hdc, hl, Nat.add_sub_cancel_left]
/-- a step that moves the heap, or wants the tables -/
theorem j_full {i : Instr} {len : Nat} (hd : j_code mi pc = some (i, n, t, sw)) (hl : n = pc + len)
    (row : ∀ {p : Program} {e : Env} {R : Room} {s : State} {m : MethodId} {args : Array Value} {below : List Frame} {meth : Method} {c : Code} {mc ms : Nat} {cc : ByteArray}, j_Cx G mi d mc ms p R s m args meth c → c.code = cc → decode cc pc = .ok (i, len) → ∀ (H : Heap) (locs : List Loc) (ls : Array Slot) (cells slots : Nat), j_Rep G σ s H → va_S (j_Ad G) s.heap H locs → j_LH G ls (j_ml mi) L → s.heap.size + cells = j_B G + j_n σ → s.heap.size + mc = j_B G + j_n τ → (∃ z, z + slots = j_sl σ ∧ z + ms = j_sl τ) →
      W p l e R s m args below meth c H locs cells slots (MQ below (j_Qc G r τ) args s mc ms (j_Ad G)) (F0 m pc ls (S.map (j_tr G)))) : j_V l G d mi pc L S σ r τ := by
  intro p e R s m args below meth c mc ms C H locs ls cells slots hR hS hL h1 h2 h3
  obtain ⟨q, hq, hdc, -⟩ := j_dec hd
  obtain ⟨q', hq', hb⟩ := C.1.2.1
  cases hq.symm.trans hq'
  refine row C hb ?_ H locs ls cells slots hR hS hL h1 h2 h3
  rw [hdc, hl, Nat.add_sub_cancel_left]
/-- a value that stays a value of its kind -/
theorem j_tr_rv (G : j_G) (n : Nat) : j_tr G (j_rv n) = va_rf (if n = 0 then none else some (j_ad G n)) := by
  unfold j_rv
  by_cases h : n = 0
  · rw [if_pos h, if_pos h]; rfl
  · rw [if_neg h, if_neg h]; rfl
theorem j_W_at {args : Array Value} {s : State} (h : ∀ w ∈ j_W, w.before args s = true) {w : Cond} (hw : w ∈ lw_tbl) (g : goodWord w = true) : w.before args s = true := h w (j_W_of hw g)
theorem j_ix_in {i : Int32} {n : Nat} (h : j_ix i n) : vp_in i n := vp_in_iff.mpr h
-- fields
theorem j_r_getf {k ci s0 : Nat} (hd : j_code mi pc = some (.getfield k, n, t, sw)) (hl : n = pc + 3) (hf : j_fr mi k = some (ci, s0)) {o : Nat} (hc : j_cl σ o = ci) (hk : j_V l G d mi n L (j_getf ci s0 σ o :: S) σ r τ) : j_V l G d mi pc L (.ref o :: S) σ r τ := by
  obtain ⟨⟨f1, f2⟩, f3⟩ := j_fok _ (j_lk2_mem hf)
  dsimp only at f1 f2 f3
  refine j_full hd hl (fun {p e R s m args below meth c mc ms cc} C hb hdg H locs ls cells slots hR hS hL h1 h2 h3 => ?_)
  subst hl
  have hw := j_ws_at (G := G) hR.1 (o := o) (by omega)
  rw [j_en_obj hc f1] at hw
  have hSf := j_fSok ci f1 s0 f2
  refine va_get (own := j_on (j_own mi)) (ref := j_on ci) (k := s0) C.1.1 hb C.2.1.2.1 (j_wsW ci f1) C.2.1.1 C.2.1.2.2.1 hR.2.2.2 (o - 1) hw (j_vw ci f1) f2 (j_W_at C.2.1.2.1 f3 rfl) (fun x h => by rw [hSf.1] at h; exact h) (j_fd_get f2) hdg ?_
  exact hk p e R s m args below meth c mc ms C H locs ls cells slots hR hS hL h1 h2 h3
theorem j_wf_put {σ : j_St} {o s0 : Nat} {v : Int32} (h : j_wf σ) : j_wf (j_put σ o s0 v) := h
theorem j_stt_put {s : State} {o s0 : Nat} {v : Int32} (h : j_stt G σ s) (ho : j_cl σ o < 22) : j_stt G (j_put σ o s0 v) s := by
  intro o' ho'
  have h1 := h o' ho'
  have hne : o' ≠ o := by
    intro e
    subst e
    have : j_cl σ o' = 22 := ho'
    omega
  have e : j_M (j_put σ o s0 v) o' = j_M σ o' := by
    funext k
    show j_up σ.2.2.2.2.2 o s0 v o' k = _
    unfold j_up
    rw [if_neg (fun q => hne q.1)]
    rfl
  refine ⟨h1.1, h1.2.1, ?_⟩
  rw [e]
  exact h1.2.2
theorem j_M_put_ne {o s0 o' : Nat} {v : Int32} (h : o' ≠ o) : j_M (j_put σ o s0 v) o' = j_M σ o' := by
  funext k
  show j_up σ.2.2.2.2.2 o s0 v o' k = _
  unfold j_up
  rw [if_neg (fun q => h q.1)]
  rfl
theorem j_M_put_eq {o s0 : Nat} {v : Int32} : j_M (j_put σ o s0 v) o s0 = v := by
  show j_up σ.2.2.2.2.2 o s0 v o s0 = _
  unfold j_up
  rw [if_pos ⟨rfl, rfl⟩]
theorem j_M_put_k {o s0 k : Nat} {v : Int32} (h : k ≠ s0) : j_M (j_put σ o s0 v) o k = j_M σ o k := by
  show j_up σ.2.2.2.2.2 o s0 v o k = _
  unfold j_up
  rw [if_neg (fun q => h q.2)]
  rfl
theorem j_getf_ne {ci s' o o' s0 : Nat} {v : Int32} (h : o' ≠ o) : j_getf ci s' (j_put σ o s0 v) o' = j_getf ci s' σ o' := by
  unfold j_getf
  rw [j_M_put_ne h]
  rfl
theorem j_en_put {o s0 o' : Nat} {v : Int32} (h : o' ≠ o) : j_en G (j_put σ o s0 v) o' = j_en G σ o' := by
  have e1 : ∀ ci, j_fd G (j_put σ o s0 v) ci o' = j_fd G σ ci o' := by
    intro ci
    unfold j_fd
    apply List.map_congr_left
    intro s' _
    rw [j_getf_ne h]
  unfold j_en
  rw [j_M_put_ne h, e1]
  rfl
theorem j_isR_narrow {ty : FieldType} (h : j_isR ty = true) (a : Nat) : narrow ty (.ref a) = .ref a ∧ fits ty (.ref a) = true := by
  cases ty <;> first | exact ⟨rfl, rfl⟩ | cases h
theorem j_below {s : State} {H H1 : Heap} {locs locs1 : List Loc} (hB : j_B G ≤ s.heap.size) (hR : j_Rep G σ s H) (hS : va_S (j_Ad G) s.heap H locs) (hS1 : va_S (j_Ad G) s.heap H1 locs1) : ∀ q : Nat, q < j_B G → H1[q]? = G.2.2.2.1[q]? := by
  intro q hq
  rw [hS1.2.1 q (Nat.lt_of_lt_of_le hq hB) (by unfold j_Ad; omega), ← hS.2.1 q (Nat.lt_of_lt_of_le hq hB) (by unfold j_Ad; omega)]
  exact hR.2.2.1 q hq
theorem j_ws_put {ci o s0 : Nat} {v : Value} {x : Int32} (hw : j_wf σ) (hc : j_cl σ o = ci) (f1 : ci < 9) (hv : j_getf ci s0 (j_put σ o s0 x) o = v) : (j_ws G σ).set (o - 1) (j_ad G o, .inr (ci, (j_fd G σ ci o).set s0 (j_tr G v))) = j_ws G (j_put σ o s0 x) := by
  have e1 : (j_fd G σ ci o).set s0 (j_tr G v) = j_fd G (j_put σ o s0 x) ci o := by
    refine j_fd_set (by rw [hv]) (fun s' hs' => ?_)
    unfold j_getf
    rw [j_M_put_k hs']
    rfl
  have e2 : j_en G (j_put σ o s0 x) o = .inr (ci, j_fd G (j_put σ o s0 x) ci o) := j_en_obj (σ := j_put σ o s0 x) hc f1
  rw [e1, ← e2]
  exact j_ws_set hw (by omega) rfl (fun o' ho' => j_en_put ho')
theorem j_Rep_put {s : State} {H H1 : Heap} {o s0 : Nat} {x : Int32} (hR : j_Rep G σ s H) (ho : j_cl σ o < 22) (hq : ∀ q : Nat, q < j_B G → H1[q]? = G.2.2.2.1[q]?) (hP : va_P G.1 vwCl (j_ws G (j_put σ o s0 x)) H1) : j_Rep G (j_put σ o s0 x) s H1 := ⟨j_wf_put hR.1, j_stt_put hR.2.1 ho, hq, hP⟩
/-- putfield of a field that isn't final -/
theorem j_r_put {k ci s0 : Nat} (hd : j_code mi pc = some (.putfield k, n, t, sw)) (hl : n = pc + 3) (hf : j_fr mi k = some (ci, s0)) {o : Nat} {v : Value} {x : Int32} (hc : j_cl σ o = ci) (hfin : (j_T ci s0).2.2.2 = false) (hnar : narrow (j_ty ci s0) (j_tr G v) = j_tr G v ∧ fits (j_ty ci s0) (j_tr G v) = true) (hv : j_getf ci s0 (j_put σ o s0 x) o = v) (hk : j_V l G d mi n L S (j_put σ o s0 x) r τ) : j_V l G d mi pc L (v :: .ref o :: S) σ r τ := by
  obtain ⟨⟨f1, f2⟩, f3⟩ := j_fok _ (j_lk2_mem hf)
  dsimp only at f1 f2 f3
  refine j_full hd hl (fun {p e R s m args below meth c mc ms cc} C hb hdg H locs ls cells slots hR hS hL h1 h2 h3 => ?_)
  subst hl
  have hw := j_ws_at (G := G) hR.1 (o := o) (by omega)
  rw [j_en_obj hc f1] at hw
  have hSf := (j_fSok ci f1 s0 f2).1
  refine va_put (own := j_on (j_own mi)) (ref := j_on ci) (k := s0) C.1.1 hb C.2.1.2.1 (j_wsW ci f1) (j_ty ci) (j_tyok ci f1) (j_nmok ci f1) C.2.1.1 C.2.1.2.2.1 hR.2.2.2 (j_D G σ) hS (o - 1) hw (j_vw ci f1) f2 (j_W_at C.2.1.2.1 f3 rfl) (fun y h => by rw [hSf] at h; exact h) hfin (j_tyok ci f1 s0 f2) hnar.1 hnar.2 (by rw [j_fd_len]; exact f2) hdg (fun H1 locs1 hP1 hD1 hS1 => ?_)
  rw [j_ws_put hR.1 hc f1 hv] at hP1
  exact hk p e R s m args below meth c mc ms C H1 locs1 ls cells slots (j_Rep_put hR (by omega) (j_below C.2.2.2.2 hR hS hS1) hP1) hS1 hL h1 h2 h3

/-! The same lemmas at any depth that is enough. -/
theorem le_ex {k e : Nat} (h : k ≤ e) : ∃ d, e = d + k := ⟨e - k, by omega⟩
theorem n32e {h : j_Hd} {M : Nat → Nat → Int32} {o : Nat} (h1 : hC h o = 2) {e : Nat} (he : 1 ≤ e) : j_C e 32 [.ref o] (FS h M) = some (some (.int (M o 1)), FS h M) := by
  obtain ⟨d, rfl⟩ := le_ex he
  exact n32 h1
theorem n33e {h : j_Hd} {M : Nat → Nat → Int32} {o : Nat} {a : Nat} {c : Nat} (hb : Nb h o a c) {i : Nat} (hi : i < 2147483648) {e : Nat} (he : 1 ≤ e) : j_C e 33 [.ref o, .int (nI i)] (FS h M) = some (some (.int (if i < c then M a i else nI 0)), FS h M) := by
  obtain ⟨d, rfl⟩ := le_ex he
  exact n33 hb hi
theorem n33ie {h : j_Hd} {M : Nat → Nat → Int32} {o : Nat} {a : Nat} {c : Nat} (hb : Nb h o a c) {i : Nat} (hi : i < c) {e : Nat} (he : 1 ≤ e) : j_C e 33 [.ref o, .int (nI i)] (FS h M) = some (some (.int (M a i)), FS h M) := by
  obtain ⟨d, rfl⟩ := le_ex he
  exact n33i hb hi
theorem n34e {h : j_Hd} {M : Nat → Nat → Int32} {o : Nat} {a : Nat} {c : Nat} (hb : Nb h o a c) {i : Nat} (hi : i < c) (v : Int32) {e : Nat} (he : 1 ≤ e) : j_C e 34 [.ref o, .int (nI i), .int v] (FS h M) = some (none, FS h (j_up M a i v)) := by
  obtain ⟨d, rfl⟩ := le_ex he
  exact n34 hb hi v
theorem n35e {h : j_Hd} {M : Nat → Nat → Int32} {o : Nat} {a : Nat} {c : Nat} (hb : Nb h o a c) {i : Nat} (hi : i < c) (v : Int32) {e : Nat} (he : 2 ≤ e) : j_C e 35 [.ref o, .int (nI i), .int v] (FS h M) = some (some (.int (M a i)), FS h (j_up M a i v)) := by
  obtain ⟨d, rfl⟩ := le_ex he
  exact n35 hb hi v
theorem n36e {h : j_Hd} {M : Nat → Nat → Int32} {o : Nat} {a : Nat} {c : Nat} (hb : Nb h o a c) {k : Nat} (hk : M o 1 = nI k) (hc : k < c) (v : Int32) {e : Nat} (he : 1 ≤ e) : j_C e 36 [.ref o, .int v] (FS h M) = some (some (.int (nI 1)), FS h (j_up (j_up M a k v) o 1 (nI (k + 1)))) := by
  obtain ⟨d, rfl⟩ := le_ex he
  exact n36 hb hk hc v
theorem n36fe {h : j_Hd} {M : Nat → Nat → Int32} {o : Nat} {a : Nat} {c : Nat} (hb : Nb h o a c) {k : Nat} (hk : M o 1 = nI k) (hc : c ≤ k) (hk2 : k < 2147483648) (v : Int32) {e : Nat} (he : 1 ≤ e) : j_C e 36 [.ref o, .int v] (FS h M) = some (some (.int (nI 0)), FS h M) := by
  obtain ⟨d, rfl⟩ := le_ex he
  exact n36f hb hk hc hk2 v
theorem n37e {h : j_Hd} {M : Nat → Nat → Int32} {o : Nat} {a : Nat} {c : Nat} (hb : Nb h o a c) {k : Nat} (hk : M o 1 = nI (k + 1)) (hc : k < c) {e : Nat} (he : 1 ≤ e) : j_C e 37 [.ref o] (FS h M) = some (some (.int (M a k)), FS h (j_up M o 1 (nI k))) := by
  obtain ⟨d, rfl⟩ := le_ex he
  exact n37 hb hk hc
theorem n37ze {h : j_Hd} {M : Nat → Nat → Int32} {o : Nat} {a : Nat} {c : Nat} (hb : Nb h o a c) (hk : M o 1 = nI 0) {e : Nat} (he : 1 ≤ e) : j_C e 37 [.ref o] (FS h M) = some (some (.int (nI 0)), FS h M) := by
  obtain ⟨d, rfl⟩ := le_ex he
  exact n37z hb hk
theorem n38e {h : j_Hd} {M : Nat → Nat → Int32} {o : Nat} (h1 : hC h o = 2) {e : Nat} (he : 1 ≤ e) : j_C e 38 [.ref o] (FS h M) = some (none, FS h (j_up M o 1 (nI 0))) := by
  obtain ⟨d, rfl⟩ := le_ex he
  exact n38 h1
theorem n39e {h : j_Hd} {M : Nat → Nat → Int32} {o : Nat} {a : Nat} {c : Nat} (hb : Nb h o a c) {n : Nat} (hn : n ≤ c) {e : Nat} (he : 2 ≤ e) : ∃ M', j_C e 39 [.ref o, .int (nI n)] (FS h M) = some (none, FS h M') ∧ M' o 1 = nI n ∧ (∀ i, i < n → M' a i = nI 0) ∧ ∀ x, x ≠ o → x ≠ a → M' x = M x := by
  obtain ⟨d, rfl⟩ := le_ex he
  exact n39 hb hn
theorem n40e {h : j_Hd} {M : Nat → Nat → Int32} {o : Nat} {a : Nat} {c : Nat} (hb : Nb h o a c) {n : Nat} (hn : n ≤ c) (hs : M o 1 = nI n) {e : Nat} (he : 2 ≤ e) : j_C e 40 [.ref o] (FS h M) = some (some (.int (sumI (M a) n)), FS h M) := by
  obtain ⟨d, rfl⟩ := le_ex he
  exact n40 hb hn hs
theorem n42e {h : j_Hd} {M : Nat → Nat → Int32} {o : Nat} {a : Nat} {c : Nat} {o2 : Nat} {a2 : Nat} {c2 : Nat} (hb : Nb h o a c) (hb2 : Nb h o2 a2 c2) {s s2 i j n : Nat} (hs : M o 1 = nI s) (hs2 : M o2 1 = nI s2) (h1 : s ≤ c) (h2 : s2 ≤ c2) (hi : i + n ≤ s2) (hj : j + n ≤ s) {e : Nat} (he : 1 ≤ e) : j_C e 42 [.ref o, .ref o2, .int (nI i), .int (nI j), .int (nI n)] (FS h M) = some (some (.int (nI 1)), FS h (j_up1 M a (va_cpy (M a2) (M a) i j n))) := by
  obtain ⟨d, rfl⟩ := le_ex he
  exact n42 hb hb2 hs hs2 h1 h2 hi hj
theorem n42fe {h : j_Hd} {M : Nat → Nat → Int32} {o : Nat} {o2 : Nat} (h1 : hC h o = 2) (h12 : hC h o2 = 2) {s s2 : Nat} (hs : M o 1 = nI s) (hs2 : M o2 1 = nI s2) (hc : s < 1000) (hc2 : s2 < 1000) {i j n : Int32} (hf : ¬ (0 ≤ n.toInt ∧ 0 ≤ i.toInt ∧ 0 ≤ j.toInt ∧ i.toInt + n.toInt ≤ s2 ∧ j.toInt + n.toInt ≤ s)) {e : Nat} (he : 1 ≤ e) : j_C e 42 [.ref o, .ref o2, .int i, .int j, .int n] (FS h M) = some (some (.int (nI 0)), FS h M) := by
  obtain ⟨d, rfl⟩ := le_ex he
  exact n42f h1 h12 hs hs2 hc hc2 hf
theorem n41e {h : j_Hd} {M : Nat → Nat → Int32} {o : Nat} {a : Nat} {c : Nat} {o2 : Nat} {a2 : Nat} {c2 : Nat} (hb : Nb h o a c) (hb2 : Nb h o2 a2 c2) (ho : o ≠ o2) (ha : a2 ≠ o) (ho2 : o2 ≠ a) {k : Nat} (hs2 : M o2 1 = nI k) (h1 : k ≤ c) (h2 : k ≤ c2) {e : Nat} (he : 2 ≤ e) : j_C e 41 [.ref o, .ref o2] (FS h M) = some (none, FS h (j_up1 (j_up M o 1 (nI k)) a (va_cpy (M a2) (M a) 0 0 k))) := by
  obtain ⟨d, rfl⟩ := le_ex he
  exact n41 hb hb2 ho ha ho2 hs2 h1 h2
theorem c122e {σ : j_St} (v lo hi : Int32) {e : Nat} (he : 1 ≤ e) : j_C e 122 [.int v, .int lo, .int hi] σ = some (some (.int (wi v lo hi)), σ) := by
  obtain ⟨d, rfl⟩ := le_ex he
  exact c122 v lo hi
theorem c123e {σ : j_St} (v : Int32) {e : Nat} (he : 2 ≤ e) : j_C e 123 [.int v] σ = some (some (.int (wi v (nI 0) (nI 69))), σ) := by
  obtain ⟨d, rfl⟩ := le_ex he
  exact c123 v
theorem c124e {σ : j_St} (v : Int32) {e : Nat} (he : 2 ≤ e) : j_C e 124 [.int v] σ = some (some (.int (wi v (nI 1) (nI 7))), σ) := by
  obtain ⟨d, rfl⟩ := le_ex he
  exact c124 v
theorem c125e {σ : j_St} (v : Int32) {e : Nat} (he : 2 ≤ e) : j_C e 125 [.int v] σ = some (some (.int (wi v (nI 0) (nI 99))), σ) := by
  obtain ⟨d, rfl⟩ := le_ex he
  exact c125 v
theorem c128e {σ : j_St} (v : Int32) {e : Nat} (he : 2 ≤ e) : j_C e 128 [.int v] σ = some (some (.int (wi v (-1) (nI 2))), σ) := by
  obtain ⟨d, rfl⟩ := le_ex he
  exact c128 v
theorem c133e {σ : j_St} {v : Nat} (hv : v < 2147483648) {e : Nat} (he : 1 ≤ e) : j_C e 133 [.int (nI v)] σ = some (some (.int (nI (sz v))), σ) := by
  obtain ⟨d, rfl⟩ := le_ex he
  exact c133 hv
theorem c139e {σ : j_St} {v b s p : Nat} (hb : 0 < b) (hb2 : b < 1000) (hv : v < 2147483648) (hs : s < 2147483648) (hp : p < 2147483648) {e : Nat} (he : 1 ≤ e) : j_C e 139 [.int (nI v), .int (nI b), .int (nI s), .int (nI p)] σ = some (some (.int (nI (dg v b (s - 1 - p)))), σ) := by
  obtain ⟨d, rfl⟩ := le_ex he
  exact c139 hb hb2 hv hs hp
theorem c140e {σ : j_St} {b t : Nat} (ht : t < 2147483648) {e : Nat} (he : 1 ≤ e) : j_C e 140 [.int (nI b), .int (nI t)] σ = some (some (.int (nI (b ^ t))), σ) := by
  obtain ⟨d, rfl⟩ := le_ex he
  exact c140 ht
theorem c134e {σ : j_St} {v : Nat} (hv : v < 2147483648) {e : Nat} (he : 2 ≤ e) : j_C e 134 [.int (nI v)] σ = some (some (.int (nI (dg v 10 (sz v - 1)))), σ) := by
  obtain ⟨d, rfl⟩ := le_ex he
  exact c134 hv
theorem c135e {σ : j_St} {p : Nat} (hp : p ≤ 3) {e : Nat} (he : 1 ≤ e) : j_C e 135 [.int (nI p)] σ = some (some (.int (nI (3 - p))), σ) := by
  obtain ⟨d, rfl⟩ := le_ex he
  exact c135 hp
theorem c136e {σ : j_St} {v w : Nat} (hv : v < 2147483648) {e : Nat} (he : 2 ≤ e) : j_C e 136 [.int (nI v), .int (nI w)] σ = some (some (.int (nI (wl v w))), σ) := by
  obtain ⟨d, rfl⟩ := le_ex he
  exact c136 hv
theorem c137e {σ : j_St} {v w : Nat} (hv : v < 2147483648) {e : Nat} (he : 2 ≤ e) : j_C e 137 [.int (nI v), .int (nI w)] σ = some (some (.int (nI (wo_ v w))), σ) := by
  obtain ⟨d, rfl⟩ := le_ex he
  exact c137 hv
theorem c138e {σ : j_St} {v p : Nat} (s : Int32) (hv : v < 2147483648) (hp : p ≤ 3) {e : Nat} (he : 2 ≤ e) : j_C e 138 [.int (nI v), .int s, .int (nI p)] σ = some (some (.int (nI (str v s p))), σ) := by
  obtain ⟨d, rfl⟩ := le_ex he
  exact c138 s hv hp
theorem c132ye {σ : j_St} {x : Nat} {y : Nat} {z : Nat} (hr : Rw x y z) {e : Nat} (he : 3 ≤ e) : j_C e 132 [.int (nI (rn x y z))] σ = some (some (.int (nI 1)), σ) := by
  obtain ⟨d, rfl⟩ := le_ex he
  exact c132y hr
theorem c132ne {σ : j_St} {x : Nat} {y : Nat} {z : Nat} {v : Int32} (hn : ¬ ∃ x y z, Rw x y z ∧ v = nI (rn x y z)) {e : Nat} (he : 3 ≤ e) : j_C e 132 [.int v] σ = some (some (.int (nI 0)), σ) := by
  obtain ⟨d, rfl⟩ := le_ex he
  exact c132n hn
theorem c3e {σ : j_St} (op l r : Int32) {e : Nat} (he : 1 ≤ e) : j_C e 3 [.int op, .int l, .int r] σ = some (some (.int (jn op l r)), σ) := by
  obtain ⟨d, rfl⟩ := le_ex he
  exact c3 op l r
theorem law_pope {h : j_Hd} {M : Nat → Nat → Int32} {u : Nat} (hl : Lw h u) {l : List Int32} (h1 : M (u + 3) 1 = nI l.length) (h2 : l.length ≤ 50) (h3 : Stk (M (u + 4)) l) {e : Nat} (he : 1 ≤ e) : ∃ M', j_C e 37 [.ref (u + 3)] (FS h M) = some (some (.int (l.headD (nI 0))), FS h M') ∧ M' (u + 3) 1 = nI l.tail.length ∧ Stk (M' (u + 4)) l.tail ∧ ∀ x, x ≠ u + 3 → M' x = M x := by
  obtain ⟨d, rfl⟩ := le_ex he
  exact law_pop hl h1 h2 h3
theorem law_pshe {h : j_Hd} {M : Nat → Nat → Int32} {u : Nat} (hl : Lw h u) {l : List Int32} (h1 : M (u + 3) 1 = nI l.length) (h2 : l.length < 50) (h3 : Stk (M (u + 4)) l) (v : Int32) {e : Nat} (he : 1 ≤ e) : ∃ M', j_C e 36 [.ref (u + 3), .int v] (FS h M) = some (some (.int (nI 1)), FS h M') ∧ M' (u + 3) 1 = nI (v :: l).length ∧ Stk (M' (u + 4)) (v :: l) ∧ ∀ x, x ≠ u + 3 → x ≠ u + 4 → M' x = M x := by
  obtain ⟨d, rfl⟩ := le_ex he
  exact law_psh hl h1 h2 h3 v
theorem c2e {h : j_Hd} {M : Nat → Nat → Int32} {u : Nat} (hl : Lw h u) {K : List Int32} (hk : Cd M u K) (a b c : Int32) {e : Nat} (he : 2 ≤ e) : ∃ M', j_C e 2 [.ref u, .int a, .int b, .int c] (FS h M) = some (some (.int (wko K a b c)), FS h M') ∧ ∀ x, x ≠ u + 3 → x ≠ u + 4 → M' x = M x := by
  obtain ⟨d, rfl⟩ := le_ex he
  exact c2 hl hk a b c
theorem c6e {h : j_Hd} {M : Nat → Nat → Int32} {b : Nat} (hk : Mk h b) {e : Nat} (he : 2 ≤ e) : j_C e 6 [.ref b] (FS h M) = some (some (.int (M (b + 1) 1)), FS h M) := by
  obtain ⟨d, rfl⟩ := le_ex he
  exact c6 hk
theorem c7e {h : j_Hd} {M : Nat → Nat → Int32} {b : Nat} (hk : Mk h b) {e : Nat} (he : 2 ≤ e) : j_C e 7 [.ref b] (FS h M) = some (some (.int (M (b + 11) 1)), FS h M) := by
  obtain ⟨d, rfl⟩ := le_ex he
  exact c7 hk
theorem c8ye {h : j_Hd} {M : Nat → Nat → Int32} {b : Nat} {E : Nat → Nat} (hk : Mk h b) (hs : CS M b E) (h6 : E 0 ≤ 6) {t : Nat} (ht : t < E 0) {e : Nat} (he : 3 ≤ e) : j_C e 8 [.ref b, .int (nI t)] (FS h M) = some (some (.int (nI 1)), FS h M) := by
  obtain ⟨d, rfl⟩ := le_ex he
  exact c8y hk hs h6 ht
theorem c8ne {h : j_Hd} {M : Nat → Nat → Int32} {b : Nat} {E : Nat → Nat} (hk : Mk h b) (hs : CS M b E) (h6 : E 0 ≤ 6) {t : Int32} (ht : ¬ ∃ j, j < E 0 ∧ t = nI j) {e : Nat} (he : 3 ≤ e) : j_C e 8 [.ref b, .int t] (FS h M) = some (some (.int (nI 0)), FS h M) := by
  obtain ⟨d, rfl⟩ := le_ex he
  exact c8n hk hs h6 ht
theorem c9ye {h : j_Hd} {M : Nat → Nat → Int32} {b : Nat} {E : Nat → Nat} (hk : Mk h b) (hs : CS M b E) (h6 : E 1 ≤ 8) {t : Nat} (ht : t < E 1) {e : Nat} (he : 3 ≤ e) : j_C e 9 [.ref b, .int (nI t)] (FS h M) = some (some (.int (nI 1)), FS h M) := by
  obtain ⟨d, rfl⟩ := le_ex he
  exact c9y hk hs h6 ht
theorem c9ne {h : j_Hd} {M : Nat → Nat → Int32} {b : Nat} {E : Nat → Nat} (hk : Mk h b) (hs : CS M b E) (h6 : E 1 ≤ 8) {t : Int32} (ht : ¬ ∃ j, j < E 1 ∧ t = nI j) {e : Nat} (he : 3 ≤ e) : j_C e 9 [.ref b, .int t] (FS h M) = some (some (.int (nI 0)), FS h M) := by
  obtain ⟨d, rfl⟩ := le_ex he
  exact c9n hk hs h6 ht
theorem c12e {h : j_Hd} {M : Nat → Nat → Int32} {b : Nat} {E : Nat → Nat} {z : Int32} {K0 : List Int32} {K1 : List Int32} (hk : Mk h b) (hm : CM M b E z K0 K1) (hw : WE E) {t c : Nat} (ht : t < 10) (hc : c < E 1) {e : Nat} (he : 2 ≤ e) : j_C e 12 [.ref b, .int (nI t), .int (nI c)] (FS h M) = some (some (.int (if E (39 + 5 * c) = t then nI 1 else nI 0)), FS h M) := by
  obtain ⟨d, rfl⟩ := le_ex he
  exact c12 hk hm hw ht hc
theorem c15ae {h : j_Hd} {M : Nat → Nat → Int32} {b : Nat} (hk : Mk h b) {e : Nat} (he : 1 ≤ e) : j_C e 15 [.ref b, .int (nI 0)] (FS h M) = some (some (.ref (b + 17)), FS h M) := by
  obtain ⟨d, rfl⟩ := le_ex he
  exact c15a hk
theorem c15be {h : j_Hd} {M : Nat → Nat → Int32} {b : Nat} (hk : Mk h b) {e : Nat} (he : 1 ≤ e) : j_C e 15 [.ref b, .int (nI 1)] (FS h M) = some (some (.ref (b + 22)), FS h M) := by
  obtain ⟨d, rfl⟩ := le_ex he
  exact c15b hk
theorem c1e {h : j_Hd} {M : Nat → Nat → Int32} {u : Nat} (hl : Lw h u) {K : List Int32} (hk : Cd M u K) {e : Nat} (he : 2 ≤ e) : j_C e 1 [.ref u] (FS h M) = some (some (.int (if K.length = 0 then nI 0 else nI 1)), FS h M) := by
  obtain ⟨d, rfl⟩ := le_ex he
  exact c1 hl hk
theorem c16ae {h : j_Hd} {M : Nat → Nat → Int32} {b : Nat} {K0 : List Int32} (hk : Mk h b) (hc : Cd M (b + 17) K0) (x y w : Int32) {e : Nat} (he : 3 ≤ e) : ∃ M', j_C e 16 [.ref b, .int (nI 0), .int x, .int y, .int w] (FS h M) = some (some (.int (gv0 K0 x y w)), FS h M') ∧ sg b M M' := by
  obtain ⟨d, rfl⟩ := le_ex he
  exact c16a hk hc x y w
theorem c16be {h : j_Hd} {M : Nat → Nat → Int32} {b : Nat} {K1 : List Int32} (hk : Mk h b) (hc : Cd M (b + 22) K1) (x y w : Int32) {e : Nat} (he : 3 ≤ e) : ∃ M', j_C e 16 [.ref b, .int (nI 1), .int x, .int y, .int w] (FS h M) = some (some (.int (gv1 K1 x y w)), FS h M') ∧ sg b M M' := by
  obtain ⟨d, rfl⟩ := le_ex he
  exact c16b hk hc x y w
theorem c17e {h : j_Hd} {M : Nat → Nat → Int32} {b : Nat} {E : Nat → Nat} {z : Int32} {K0 : List Int32} {K1 : List Int32} (hk : Mk h b) (hm : CM M b E z K0 K1) (hw : WE E) {c t : Nat} (ht : t < E 0) (hc : c < E 1) {e : Nat} (he : 4 ≤ e) : ∃ M', j_C e 17 [.ref b, .int (nI c), .int (nI t)] (FS h M) = some (some (.int (wth E K0 c t)), FS h M') ∧ sg b M M' := by
  obtain ⟨d, rfl⟩ := le_ex he
  exact c17 hk hm hw ht hc
theorem c18e {h : j_Hd} {M : Nat → Nat → Int32} {b : Nat} {E : Nat → Nat} {z : Int32} {K0 : List Int32} {K1 : List Int32} (hk : Mk h b) (hm : CM M b E z K0 K1) (hw : WE E) {c t : Nat} (ht : t < E 0) (hc : c < E 1) {e : Nat} (he : 5 ≤ e) : ∃ M', j_C e 18 [.ref b, .int (nI t), .int (nI c)] (FS h M) = some (some (.int (if wth E K0 c t < nI (E (11 + 5 * t)) then nI 0 else nI 1)), FS h M') ∧ sg b M M' := by
  obtain ⟨d, rfl⟩ := le_ex he
  exact c18 hk hm hw ht hc
theorem c20e {h : j_Hd} {M : Nat → Nat → Int32} {b : Nat} (hk : Mk h b) {k w v t : Nat} (ht : t < 6) (h1 : M (b + 2) t = nI k) (hk7 : k < 7) (h2 : M (b + 6) t = nI w) (hv : v < 1000) {e : Nat} (he : 3 ≤ e) : j_C e 20 [.ref b, .int (nI v), .int (nI t)] (FS h M) = some (some (.int (nI (if k = 2 then w else if k = 5 then 0 else wl v w))), FS h M) := by
  obtain ⟨d, rfl⟩ := le_ex he
  exact c20 hk ht h1 hk7 h2 hv
theorem c19ne {h : j_Hd} {M : Nat → Nat → Int32} {b : Nat} {E : Nat → Nat} {z : Int32} {K0 : List Int32} {K1 : List Int32} (hk : Mk h b) (hm : CM M b E z K0 K1) (hw : WE E) {c t : Nat} (ht : t < E 0) (hc : c < E 1) (hr : wth E K0 c t < nI (E (11 + 5 * t))) {e : Nat} (he : 5 ≤ e) : ∃ M', j_C e 19 [.ref b, .int (nI c), .int (nI t)] (FS h M) = some (some (.int (nI 0)), FS h M') ∧ sg b M M' := by
  obtain ⟨d, rfl⟩ := le_ex he
  exact c19n hk hm hw ht hc hr
theorem c19ye {h : j_Hd} {M : Nat → Nat → Int32} {b : Nat} {E : Nat → Nat} {z : Int32} {K0 : List Int32} {K1 : List Int32} (hk : Mk h b) (hm : CM M b E z K0 K1) (hw : WE E) {c t : Nat} (ht : t < E 0) (hc : c < E 1) (hr : ¬ wth E K0 c t < nI (E (11 + 5 * t))) {e : Nat} (he : 5 ≤ e) : ∃ M', j_C e 19 [.ref b, .int (nI c), .int (nI t)] (FS h M) = some (some (.int (nI 1)), FS h M') ∧ CM M' b (sel E c t) z K0 K1 ∧ mg b M M' := by
  obtain ⟨d, rfl⟩ := le_ex he
  exact c19y hk hm hw ht hc hr
theorem c23e {h : j_Hd} {M : Nat → Nat → Int32} {b : Nat} {E : Nat → Nat} {z : Int32} {K0 : List Int32} {K1 : List Int32} (hk : Mk h b) (hm : CM M b E z K0 K1) (hw : WE E) {t : Nat} (ht : t < 10) {e : Nat} (he : 3 ≤ e) : ∃ M', j_C e 23 [.ref b, .int (nI t)] (FS h M) = some (none, FS h M') ∧ CM M' b (mgl E t) z K0 K1 ∧ mg b M M' := by
  obtain ⟨d, rfl⟩ := le_ex he
  exact c23 hk hm hw ht
theorem c22e {h : j_Hd} {M : Nat → Nat → Int32} {b : Nat} {E : Nat → Nat} {z : Int32} {K0 : List Int32} {K1 : List Int32} (hk : Mk h b) (hm : CM M b E z K0 K1) (hw : WE E) (hd : E 2 + 1 < 100000) {e : Nat} (he : 4 ≤ e) : ∃ M', j_C e 22 [.ref b] (FS h M) = some (none, FS h M') ∧ CM M' b (dayE E) z K0 K1 ∧ mg b M M' := by
  obtain ⟨d, rfl⟩ := le_ex he
  exact c22 hk hm hw hd
theorem c13e {h : j_Hd} {M : Nat → Nat → Int32} {b : Nat} {E : Nat → Nat} {z : Int32} {K0 : List Int32} {K1 : List Int32} (hk : Mk h b) (hm : CM M b E z K0 K1) (hw : WE E) {t : Nat} (ht : t < 10) {e : Nat} (he : 3 ≤ e) : j_C e 13 [.ref b, .int (nI t)] (FS h M) = some (some (.int (hbS E t (E 1))), FS h M) := by
  obtain ⟨d, rfl⟩ := le_ex he
  exact c13 hk hm hw ht
theorem c14e {h : j_Hd} {M : Nat → Nat → Int32} {b : Nat} {E : Nat → Nat} {z : Int32} {K0 : List Int32} {K1 : List Int32} (hk : Mk h b) (hm : CM M b E z K0 K1) (hw : WE E) {e : Nat} (he : 3 ≤ e) : j_C e 14 [.ref b] (FS h M) = some (some (.int (nI (smS E (E 1)))), FS h M) := by
  obtain ⟨d, rfl⟩ := le_ex he
  exact c14 hk hm hw
theorem c26e {h : j_Hd} {M : Nat → Nat → Int32} {b : Nat} {E : Nat → Nat} {z : Int32} {K0 : List Int32} {K1 : List Int32} (hk : Mk h b) (hm : CM M b E z K0 K1) (hw : WE E) {t : Nat} (ht : t < 10) {e : Nat} (he : 4 ≤ e) : ∃ M', j_C e 26 [.ref b, .int (nI t)] (FS h M) = some (some (.int (tlS E K1 t (E 1))), FS h M') ∧ sg b M M' := by
  obtain ⟨d, rfl⟩ := le_ex he
  exact c26 hk hm hw ht
theorem c27e {h : j_Hd} {M : Nat → Nat → Int32} {b : Nat} {E : Nat → Nat} {z : Int32} {K0 : List Int32} {K1 : List Int32} (hk : Mk h b) (hm : CM M b E z K0 K1) (hw : WE E) {c : Nat} (hc : c < E 1) {e : Nat} (he : 6 ≤ e) : ∃ M', j_C e 27 [.ref b, .int (nI c)] (FS h M) = some (some (.int (tkS E K0 c (E 0))), FS h M') ∧ sg b M M' := by
  obtain ⟨d, rfl⟩ := le_ex he
  exact c27 hk hm hw hc
theorem c28e {h : j_Hd} {M : Nat → Nat → Int32} {b : Nat} {E : Nat → Nat} {z : Int32} {K0 : List Int32} {K1 : List Int32} (hk : Mk h b) (hm : CM M b E z K0 K1) (hw : WE E) {e : Nat} (he : 7 ≤ e) : ∃ M', j_C e 28 [.ref b] (FS h M) = some (some (.int (utS E K0 (E 1))), FS h M') ∧ sg b M M' := by
  obtain ⟨d, rfl⟩ := le_ex he
  exact c28 hk hm hw
theorem c30e {h : j_Hd} {M : Nat → Nat → Int32} {b : Nat} {E : Nat → Nat} {z : Int32} {K0 : List Int32} {K1 : List Int32} (hk : Mk h b) (hm : CM M b E z K0 K1) (hw : WE E) {s : Nat} (hs : s < 8) {e : Nat} (he : 4 ≤ e) : j_C e 30 [.ref b, .int (nI s)] (FS h M) = some (some (.int (nI (siS E s (E 1)))), FS h M) := by
  obtain ⟨d, rfl⟩ := le_ex he
  exact c30 hk hm hw hs
theorem c29e {h : j_Hd} {M : Nat → Nat → Int32} {b : Nat} {E : Nat → Nat} {z : Int32} {K0 : List Int32} {K1 : List Int32} (hk : Mk h b) (hm : CM M b E z K0 K1) (hw : WE E) {e : Nat} (he : 5 ≤ e) : j_C e 29 [.ref b] (FS h M) = some (some (.int (nI (hmS E 7))), FS h M) := by
  obtain ⟨d, rfl⟩ := le_ex he
  exact c29 hk hm hw
theorem c25e {h : j_Hd} {M : Nat → Nat → Int32} {b : Nat} {z : Int32} (hk : Mk h b) (hz : M b 13 = z) {e : Nat} (he : 1 ≤ e) : j_C e 25 [.ref b] (FS h M) = some (some (.int (nI (drn z))), FS h (j_up M b 13 (drz z))) := by
  obtain ⟨d, rfl⟩ := le_ex he
  exact c25 hk hz
theorem n41xe {h : j_Hd} {M : Nat → Nat → Int32} {o a c o2 a2 c2 : Nat} (hb : Nb h o a c) (hb2 : Nb h o2 a2 c2) (ho : o ≠ o2) (ha : a2 ≠ o) (ho2 : o2 ≠ a) {k : Nat} (hs2 : M o2 1 = nI k) (h1 : k ≤ c) (h2 : k ≤ c2) {e : Nat} (he : 2 ≤ e) : ∃ M', j_C e 41 [.ref o, .ref o2] (FS h M) = some (none, FS h M') ∧ M' o 1 = nI k ∧ (∀ i, i < k → M' a i = M a2 i) ∧ (∀ i, k ≤ i → M' a i = M a i) ∧ ∀ x, x ≠ o → x ≠ a → M' x = M x := by
  obtain ⟨d, rfl⟩ := le_ex he
  exact n41x hb hb2 ho ha ho2 hs2 h1 h2
theorem c24e {h : j_Hd} {M : Nat → Nat → Int32} {b : Nat} {E : Nat → Nat} {z : Int32} {K0 : List Int32} {K1 : List Int32} (hk : Mk h b) (hm : CM M b E z K0 K1) (hw : WE E) {e : Nat} (he : 6 ≤ e) : ∃ M', j_C e 24 [.ref b] (FS h M) = some (none, FS h M') ∧ CM M' b (ofE E z K0) (ofZ E z) K0 K1 ∧ mg b M M' := by
  obtain ⟨d, rfl⟩ := le_ex he
  exact c24 hk hm hw
theorem c5e {h : j_Hd} {M : Nat → Nat → Int32} {b : Nat} {b2 : Nat} {E2 : Nat → Nat} {z2 : Int32} {L0 L1 : List Int32} (hk : Mk h b) (hk2 : Mk h b2) (hdis : b + 27 ≤ b2 ∨ b2 + 27 ≤ b) (hst : ∀ c, c < 8 → ∃ v, v < 1000 ∧ M (b + 16) c = nI v) (hm : CM M b2 E2 z2 L0 L1) (hw : WE E2) {e : Nat} (he : 3 ≤ e) : ∃ M', j_C e 5 [.ref b, .ref b2] (FS h M) = some (none, FS h M') ∧ CM M' b E2 z2 L0 L1 ∧ mg b M M' := by
  obtain ⟨d, rfl⟩ := le_ex he
  exact c5 hk hk2 hdis hst hm hw
theorem n36xe {h : j_Hd} {M : Nat → Nat → Int32} {o a c : Nat} (hb : Nb h o a c) {k : Nat} (hk : M o 1 = nI k) (hc : k < c) (v : Int32) {e : Nat} (he : 1 ≤ e) : ∃ M', j_C e 36 [.ref o, .int v] (FS h M) = some (some (.int (nI 1)), FS h M') ∧ M' o 1 = nI (k + 1) ∧ M' a k = v ∧ (∀ i, i ≠ k → M' a i = M a i) ∧ ∀ x, x ≠ o → x ≠ a → M' x = M x := by
  obtain ⟨d, rfl⟩ := le_ex he
  exact n36x hb hk hc v
theorem c10e {h : j_Hd} {M : Nat → Nat → Int32} {b : Nat} {E : Nat → Nat} {z : Int32} {K0 : List Int32} {K1 : List Int32} (hk : Mk h b) (hm : CM M b E z K0 K1) (hw : WE E) {km w : Nat} (hkm : km ≤ 69) (hw7 : w ≤ 7) (h6 : E 0 < 6) {e : Nat} (he : 3 ≤ e) : ∃ M', j_C e 10 [.ref b, .int (nI km), .int (nI w)] (FS h M) = some (some (.int (nI (E 0))), FS h M') ∧ CM M' b (addT E km w) z K0 K1 ∧ mg b M M' := by
  obtain ⟨d, rfl⟩ := le_ex he
  exact c10 hk hm hw hkm hw7 h6
theorem c11e {h : j_Hd} {M : Nat → Nat → Int32} {b : Nat} {E : Nat → Nat} {z : Int32} {K0 : List Int32} {K1 : List Int32} (hk : Mk h b) (hm : CM M b E z K0 K1) (hw : WE E) {v t : Nat} (h8 : E 1 < 8) {e : Nat} (he : 3 ≤ e) : ∃ M', j_C e 11 [.ref b, .int (nI v), .int (nI t)] (FS h M) = some (some (.int (nI (E 1))), FS h M') ∧ CM M' b (addC E v t) z K0 K1 ∧ mg b M M' := by
  obtain ⟨d, rfl⟩ := le_ex he
  exact c11 hk hm hw h8
theorem r143e {σ : j_St} (x lo hi : Int64) {e : Nat} (he : 1 ≤ e) : j_C e 143 [.long x, .long lo, .long hi] σ = some (some (.int (lin x lo hi)), σ) := by
  obtain ⟨d, rfl⟩ := le_ex he
  exact r143 x lo hi
theorem r147e {h : j_Hd} {M : Nat → Nat → Int32} {o : Nat} (hk : Md h o) {t k : Nat} (hi : 8 + 5 * t + k < 250) {e : Nat} (he : 1 ≤ e) : j_C e 147 [.ref o, .int (nI t), .int (nI k)] (FS h M) = some (some (.int (M (o + 1) (8 + 5 * t + k))), FS h M) := by
  obtain ⟨d, rfl⟩ := le_ex he
  exact r147 hk hi
theorem r148e {h : j_Hd} {M : Nat → Nat → Int32} {o : Nat} (hk : Md h o) {t k : Nat} (hi : 38 + 5 * t + k < 250) {e : Nat} (he : 1 ≤ e) : j_C e 148 [.ref o, .int (nI t), .int (nI k)] (FS h M) = some (some (.int (M (o + 1) (38 + 5 * t + k))), FS h M) := by
  obtain ⟨d, rfl⟩ := le_ex he
  exact r148 hk hi
theorem r145ye {h : j_Hd} {M : Nat → Nat → Int32} {o : Nat} {E : Nat → Nat} {z : Int32} (hk : Md h o) (hm : RLd M o E z) (h6 : E 0 ≤ 6) {t : Nat} (ht : t < E 0) {e : Nat} (he : 2 ≤ e) : j_C e 145 [.ref o, .int (nI t)] (FS h M) = some (some (.int (nI 1)), FS h M) := by
  obtain ⟨d, rfl⟩ := le_ex he
  exact r145y hk hm h6 ht
theorem r145ne {h : j_Hd} {M : Nat → Nat → Int32} {o : Nat} {E : Nat → Nat} {z : Int32} (hk : Md h o) (hm : RLd M o E z) (h6 : E 0 ≤ 6) {t : Int32} (ht : ¬ ∃ j, j < E 0 ∧ t = nI j) {e : Nat} (he : 2 ≤ e) : j_C e 145 [.ref o, .int t] (FS h M) = some (some (.int (nI 0)), FS h M) := by
  obtain ⟨d, rfl⟩ := le_ex he
  exact r145n hk hm h6 ht
theorem r146ye {h : j_Hd} {M : Nat → Nat → Int32} {o : Nat} {E : Nat → Nat} {z : Int32} (hk : Md h o) (hm : RLd M o E z) (h8 : E 1 ≤ 8) {t : Nat} (ht : t < E 1) {e : Nat} (he : 2 ≤ e) : j_C e 146 [.ref o, .int (nI t)] (FS h M) = some (some (.int (nI 1)), FS h M) := by
  obtain ⟨d, rfl⟩ := le_ex he
  exact r146y hk hm h8 ht
theorem r146ne {h : j_Hd} {M : Nat → Nat → Int32} {o : Nat} {E : Nat → Nat} {z : Int32} (hk : Md h o) (hm : RLd M o E z) (h8 : E 1 ≤ 8) {t : Int32} (ht : ¬ ∃ j, j < E 1 ∧ t = nI j) {e : Nat} (he : 2 ≤ e) : j_C e 146 [.ref o, .int t] (FS h M) = some (some (.int (nI 0)), FS h M) := by
  obtain ⟨d, rfl⟩ := le_ex he
  exact r146n hk hm h8 ht
theorem r166e {h : j_Hd} {M : Nat → Nat → Int32} {o : Nat} {E : Nat → Nat} {z : Int32} (hk : Md h o) (hm : RLd M o E z) {c : Nat} (hc : c < 8) (hr : Rw (E (40 + 5 * c)) (E (41 + 5 * c)) (E (42 + 5 * c))) {e : Nat} (he : 2 ≤ e) : j_C e 166 [.ref o, .int (nI c)] (FS h M) = some (some (.int (nI (nE E c))), FS h M) := by
  obtain ⟨d, rfl⟩ := le_ex he
  exact r166 hk hm hc hr
theorem r144e {σ : j_St} (v lo hi : Int32) {e : Nat} (he : 1 ≤ e) : j_C e 144 [.int v, .int lo, .int hi] σ = some (some (.int (hld v lo hi)), σ) := by
  obtain ⟨d, rfl⟩ := le_ex he
  exact r144 v lo hi
theorem r183e {h : j_Hd} {M : Nat → Nat → Int32} {o : Nat} {E : Nat → Nat} {z : Int32} (hk : Md h o) (hm : RLd M o E z) {c t : Nat} (ht : t < 6) (hc : c < 8) (hkd : E (8 + 5 * t) < 7) (hs : E 3 ≤ 9999) {e : Nat} (he : 2 ≤ e) : ∃ M', j_C e 183 [.ref o, .int (nI c), .int (nI t)] (FS h M) = some (none, FS h M') ∧ RLd M' o (sel E c t) z ∧ ld o M M' := by
  obtain ⟨d, rfl⟩ := le_ex he
  exact r183 hk hm ht hc hkd hs
theorem r186e {h : j_Hd} {M : Nat → Nat → Int32} {o : Nat} {E : Nat → Nat} {z : Int32} (hk : Md h o) {t : Nat} (ht : t < 10) (hm : RLd M o E z) (hw : WE E) {e : Nat} (he : 3 ≤ e) : ∃ M', j_C e 186 [.ref o, .int (nI t)] (FS h M) = some (none, FS h M') ∧ RLd M' o (mgl E t) z ∧ ld o M M' := by
  obtain ⟨d, rfl⟩ := le_ex he
  exact r186 hk ht hm hw
theorem r187e {h : j_Hd} {M : Nat → Nat → Int32} {o : Nat} {E : Nat → Nat} {z : Int32} (hk : Md h o) (hm : RLd M o E z) (hw : WE E) (hd : E 2 + 1 < 100000) {e : Nat} (he : 4 ≤ e) : ∃ M', j_C e 187 [.ref o] (FS h M) = some (none, FS h M') ∧ RLd M' o (dayE E) z ∧ ld o M M' := by
  obtain ⟨d, rfl⟩ := le_ex he
  exact r187 hk hm hw hd
theorem r149e {h : j_Hd} {M : Nat → Nat → Int32} {o : Nat} (hk : Md h o) {e : Nat} (he : 1 ≤ e) : ∃ M', j_C e 149 [.ref o] (FS h M) = some (none, FS h M') ∧ (∀ k, k < 78 → M' (o + 4) k = M (o + 1) k) ∧ ∀ x, x ≠ o + 4 → M' x = M x := by
  obtain ⟨d, rfl⟩ := le_ex he
  exact r149 hk
theorem r150e {h : j_Hd} {M : Nat → Nat → Int32} {o : Nat} (hk : Md h o) {e : Nat} (he : 1 ≤ e) : ∃ M', j_C e 150 [.ref o] (FS h M) = some (none, FS h M') ∧ (∀ k, k < 78 → M' (o + 1) k = M (o + 4) k) ∧ (∀ k, 78 ≤ k → M' (o + 1) k = M (o + 1) k) ∧ ∀ x, x ≠ o + 1 → M' x = M x := by
  obtain ⟨d, rfl⟩ := le_ex he
  exact r150 hk
theorem r167e {h : j_Hd} {M : Nat → Nat → Int32} {o : Nat} {E : Nat → Nat} {z : Int32} (hk : Md h o) (hm : RLd M o E z) (hw : WE E) {e : Nat} (he : 3 ≤ e) : j_C e 167 [.ref o] (FS h M) = some (some (.int (nI (smS E (E 1)))), FS h M) := by
  obtain ⟨d, rfl⟩ := le_ex he
  exact r167 hk hm hw
theorem r175e {h : j_Hd} {M : Nat → Nat → Int32} {o : Nat} {E : Nat → Nat} {z : Int32} (hk : Md h o) (hm : RLd M o E z) (hw : WE E) {t : Nat} (ht : t < 10) {e : Nat} (he : 2 ≤ e) : j_C e 175 [.ref o, .int (nI t)] (FS h M) = some (some (.int (hbS E t (E 1))), FS h M) := by
  obtain ⟨d, rfl⟩ := le_ex he
  exact r175 hk hm hw ht
theorem r190e {h : j_Hd} {M : Nat → Nat → Int32} {o : Nat} {E : Nat → Nat} {z : Int32} (hk : Md h o) (hm : RLd M o E z) {e : Nat} (he : 1 ≤ e) : j_C e 190 [.ref o] (FS h M) = some (some (.int (nI (drn z))), FS h (j_up M (o + 1) 5 (drz z))) := by
  obtain ⟨d, rfl⟩ := le_ex he
  exact r190 hk hm
theorem c21ce {h : j_Hd} {M : Nat → Nat → Int32} {b : Nat} {E : Nat → Nat} {z : Int32} {K0 : List Int32} {K1 : List Int32} (hk : Mk h b) (hm : CM M b E z K0 K1) (hw : WE E) {n : Nat} (hn : n ≤ 1000) (hd : E 2 + n < 100000) {e : Nat} (he : 5 ≤ e) : ∃ M', j_C e 21 [.ref b, .int (nI n)] (FS h M) = some (none, FS h M') ∧ CM M' b (dyN n E) z K0 K1 ∧ mg b M M' := by
  obtain ⟨d, rfl⟩ := le_ex he
  exact c21c hk hm hw hn hd
theorem c70e {h : j_Hd} {M : Nat → Nat → Int32} {b : Nat} {w : Nat} {E : Nat → Nat} {z : Int32} {K0 : List Int32} {K1 : List Int32} (ht : Th h w) (hk : Mk h b) (hdis : w + 1 + 27 ≤ b ∨ b + 27 ≤ w + 1) (hst : Sd M (w + 1)) (hm : CM M b E z K0 K1) (hw : WE E) {c n : Nat} (hc : c < E 1) (hn : n ≤ 1000) (hd : E 2 + n < 100000) {e : Nat} (he : 7 ≤ e) : ∃ M', j_C e 70 [.ref w, .ref b, .int (nI c), .int (nI n)] (FS h M) = some (some (.int (tkS (dyN n E) K0 c (dyN n E 0))), FS h M') ∧ Sd M' (w + 1) ∧ mg (w + 1) M M' := by
  obtain ⟨d, rfl⟩ := le_ex he
  exact c70 ht hk hdis hst hm hw hc hn hd
theorem c71e {h : j_Hd} {M : Nat → Nat → Int32} {b : Nat} {w : Nat} {E : Nat → Nat} {z : Int32} {K0 : List Int32} {K1 : List Int32} (ht : Th h w) (hk : Mk h b) (hdis : w + 1 + 27 ≤ b ∨ b + 27 ≤ w + 1) (hst : Sd M (w + 1)) (hm : CM M b E z K0 K1) (hw : WE E) {t n : Nat} (hc : t < 10) (hn : n ≤ 1000) (hd : E 2 + n < 100000) {e : Nat} (he : 5 ≤ e) : ∃ M', j_C e 71 [.ref w, .ref b, .int (nI t), .int (nI n)] (FS h M) = some (some (.int (tyS K1 t n (nI 0) E)), FS h M') ∧ Sd M' (w + 1) ∧ mg (w + 1) M M' := by
  obtain ⟨d, rfl⟩ := le_ex he
  exact c71 ht hk hdis hst hm hw hc hn hd
theorem c72e {h : j_Hd} {M : Nat → Nat → Int32} {b : Nat} {w : Nat} {E : Nat → Nat} {z : Int32} {K0 : List Int32} {K1 : List Int32} (ht : Th h w) (hk : Mk h b) (hdis : w + 1 + 27 ≤ b ∨ b + 27 ≤ w + 1) (hst : Sd M (w + 1)) (hm : CM M b E z K0 K1) (hw : WE E) {ow aw cw n : Nat} (hN : Nb h ow aw cw) (ho : ow < w + 1 ∨ w + 1 + 27 ≤ ow) (ha : aw < w + 1 ∨ w + 1 + 27 ≤ aw) (hs : M ow 1 = nI n) (hn : n ≤ cw) (hd : E 2 + n < 100000) {e : Nat} (he : 5 ≤ e) : ∃ M', j_C e 72 [.ref w, .ref b, .ref ow] (FS h M) = some (some (.int (fwS (M aw) n 0 E)), FS h M') ∧ Sd M' (w + 1) ∧ mg (w + 1) M M' := by
  obtain ⟨d, rfl⟩ := le_ex he
  exact c72 ht hk hdis hst hm hw hN ho ha hs hn hd
theorem c69e {h : j_Hd} {M : Nat → Nat → Int32} {w : Nat} {E : Nat → Nat} {z : Int32} {K0 : List Int32} {K1 : List Int32} (ht : Th h w) (hm : CM M (w + 1) E z K0 K1) (hw : WE E) {c : Nat} (hc : c < E 1) {e : Nat} (he : 6 ≤ e) : ∃ M', j_C e 69 [.ref w, .int (nI c)] (FS h M) = some (some (.int (if (ipS E K0 c (E (39 + 5 * c)) (E 0 - 1) 1).isSome = true then nI 1 else nI 0)), FS h M') ∧ CM M' (w + 1) ((ipS E K0 c (E (39 + 5 * c)) (E 0 - 1) 1).getD E) z K0 K1 ∧ mg (w + 1) M M' := by
  obtain ⟨d, rfl⟩ := le_ex he
  exact c69 ht hm hw hc
theorem c68e {h : j_Hd} {M : Nat → Nat → Int32} {b : Nat} {w : Nat} {E : Nat → Nat} {z : Int32} {K0 : List Int32} {K1 : List Int32} (ht : Th h w) (hk : Mk h b) (hdis : w + 1 + 27 ≤ b ∨ b + 27 ≤ w + 1) (hst : Sd M (w + 1)) (hm : CM M b E z K0 K1) (hw : WE E) {c : Nat} (hc : c < E 1) {e : Nat} (he : 7 ≤ e) : ∃ M', j_C e 68 [.ref w, .ref b, .int (nI c)] (FS h M) = some (some (.int (nI (rdS K0 c 100 0 E))), FS h M') ∧ Sd M' (w + 1) ∧ mg (w + 1) M M' := by
  obtain ⟨d, rfl⟩ := le_ex he
  exact c68 ht hk hdis hst hm hw hc
theorem c59e {h : j_Hd} {M : Nat → Nat → Int32} {b : Nat} {w : Nat} {E : Nat → Nat} {z : Int32} {K0 : List Int32} {K1 : List Int32} (ht : Th h w) (hk : Mk h b) (hm : CM M b E z K0 K1) (hw : WE E) {t u : Nat} (htt : t < E 0) (hu : u < E 0) {e : Nat} (he : 6 ≤ e) : ∃ M', j_C e 59 [.ref w, .ref b, .int (nI t), .int (nI u)] (FS h M) = some (some (.int (lwV (lwS E K0 t u (E 1)))), FS h M') ∧ sg b M M' := by
  obtain ⟨d, rfl⟩ := le_ex he
  exact c59 ht hk hm hw htt hu
theorem c64e {h : j_Hd} {M : Nat → Nat → Int32} {w : Nat} (ht : Th h w) (x y v : Int32) {e : Nat} (he : 1 ≤ e) : j_C e 64 [.ref w, .int x, .int y, .int v] (FS h M) = some (none, FS h (j_up (j_up (j_up M w 2 x) w 3 y) w 4 v)) := by
  obtain ⟨d, rfl⟩ := le_ex he
  exact c64 ht x y v
theorem c65e {h : j_Hd} {M : Nat → Nat → Int32} {w : Nat} (ht : Th h w) {v n s p : Nat} (hf : FdT M w v n s) (hn : 0 < n) (hn2 : n < 1000) (hv : v < 2147483648) (hs : s < 1000) (hp : p < 1000) {e : Nat} (he : 2 ≤ e) : j_C e 65 [.ref w, .int (nI p)] (FS h M) = some (some (.int (nI (dg v n (s - 1 - p)))), FS h M) := by
  obtain ⟨d, rfl⟩ := le_ex he
  exact c65 ht hf hn hn2 hv hs hp
theorem c63e {h : j_Hd} {M : Nat → Nat → Int32} {w : Nat} {E : Nat → Nat} {z : Int32} {K0 : List Int32} {K1 : List Int32} (ht : Th h w) {c v n s : Nat} (hn : 0 < n) (hn2 : n < 7) (hv : v < 2147483648) (hs : s < 1000) (hm : CM M (w + 1) E z K0 K1) (hw : WE E) (hc : c < E 1) (hnE : n = E 0) (hf : FdT M w v n s) {e : Nat} (he : 6 ≤ e) : ∃ M', j_C e 63 [.ref w, .int (nI c)] (FS h M) = some (some (.int (if (alS K0 c v n s s 0 E).1 = true then nI 1 else nI 0)), FS h M') ∧ CM M' (w + 1) (alS K0 c v n s s 0 E).2 z K0 K1 ∧ mg (w + 1) M M' := by
  obtain ⟨d, rfl⟩ := le_ex he
  exact c63 ht hn hn2 hv hs hm hw hc hnE hf
theorem c61e {h : j_Hd} {M : Nat → Nat → Int32} {w : Nat} (ht : Th h w) {n : Nat} (hn : n ≤ 8) (hs : M (w + 28) 1 = nI n) (S : Int32) {e : Nat} (he : 2 ≤ e) : j_C e 61 [.ref w, .int S] (FS h M) = some (some (.int (wosS (M (w + 29)) S n)), FS h M) := by
  obtain ⟨d, rfl⟩ := le_ex he
  exact c61 ht hn hs S
theorem r168e {h : j_Hd} {M : Nat → Nat → Int32} {o : Nat} {E : Nat → Nat} {z : Int32} (hk : Md h o) (hm : RLd M o E z) {c : Nat} (hc : c < 8) (hr : Rw (E (40 + 5 * c)) (E (41 + 5 * c)) (E (42 + 5 * c))) {e : Nat} (he : 3 ≤ e) : j_C e 168 [.ref o, .int (nI c)] (FS h M) = some (some (.int (nI (rE E c))), FS h M) := by
  obtain ⟨d, rfl⟩ := le_ex he
  exact r168 hk hm hc hr
theorem c224e {σ : j_St} {s : Nat} (hs : s < 256) {e : Nat} (he : 1 ≤ e) : j_C e 224 [.int (nI s)] σ = some (some (.int (nI (cnt s))), σ) := by
  obtain ⟨d, rfl⟩ := le_ex he
  exact c224 hs
theorem c60e {h : j_Hd} {M : Nat → Nat → Int32} {b : Nat} {w : Nat} {E : Nat → Nat} {z : Int32} {K0 : List Int32} {K1 : List Int32} (ht : Th h w) (hk : Mk h b) (hdis : b + 27 ≤ w) (hm : CM M b E z K0 K1) (hw : WE E) {t u S : Nat} (hT : t < E 0) (hu : u < E 0) (hS : S < 1000) {e : Nat} (he : 5 ≤ e) : ∃ M', j_C e 60 [.ref w, .ref b, .int (nI t), .int (nI u), .int (nI S)] (FS h M) = some (some (.int (nI (pyS (pw E K0 t u) (E 1) S (2 ^ E 1 - 1) 1 0))), FS h M') ∧ pg w b M M' := by
  obtain ⟨d, rfl⟩ := le_ex he
  exact c60 ht hk hdis hm hw hT hu hS
theorem c62e {h : j_Hd} {M : Nat → Nat → Int32} {b : Nat} {w : Nat} {E : Nat → Nat} {z : Int32} {K0 : List Int32} {K1 : List Int32} (ht : Th h w) (hk : Mk h b) (hdis : b + 27 ≤ w) (hst : Sd M (w + 1)) (hm : CM M b E z K0 K1) (hw : WE E) {c rv : Nat} (hc : c < E 1) (hrv : rv < 1000) {e : Nat} (he : 7 ≤ e) : ∃ M', j_C e 62 [.ref w, .ref b, .int (nI c), .int (nI rv)] (FS h M) = some (some (.int (match ldN E K0 c rv (E 0) 4 0 with | some x => nI x.1 | none => -1)), FS h M') ∧ (∀ s' v', ldN E K0 c rv (E 0) 4 0 = some (s', v') → FdT M' w v' (E 0) s') ∧ Sd M' (w + 1) ∧ tg w M M' := by
  obtain ⟨d, rfl⟩ := le_ex he
  exact c62 ht hk hdis hst hm hw hc hrv
theorem c67e {h : j_Hd} {M : Nat → Nat → Int32} {b : Nat} {w : Nat} {E : Nat → Nat} {z : Int32} {K0 : List Int32} {K1 : List Int32} (ht : Th h w) (hk : Mk h b) (hm : CM M b E z K0 K1) (hw : WE E) {rv v n s : Nat} (hrv : rv < 1000) (hn : 0 < n) (hnE : n = E 0) (hv : v < 1000) (hs : s ≤ 3) (hf : FdT M w v n s) {e : Nat} (he : 3 ≤ e) : j_C e 67 [.ref w, .ref b, .int (nI rv)] (FS h M) = some (some (.int (if haS E rv v n s s 0 (-1) = true then nI 1 else nI 0)), FS h M) := by
  obtain ⟨d, rfl⟩ := le_ex he
  exact c67 ht hk hm hw hrv hn hnE hv hs hf
theorem c66e {h : j_Hd} {M : Nat → Nat → Int32} {b : Nat} {w : Nat} {E : Nat → Nat} {z : Int32} {K0 : List Int32} {K1 : List Int32} (ht : Th h w) (hk : Mk h b) (hdis : b + 27 ≤ w) (hm : CM M b E z K0 K1) (hw : WE E) {c : Nat} (hc : c < E 1) {e : Nat} (he : 4 ≤ e) : ∃ M', j_C e 66 [.ref w, .ref b, .int (nI c)] (FS h M) = some (some (.int (nI (hwS E (rE E c) (E 0) (nE E c) (E 0 ^ nE E c) 0 0 0).2)), FS h M') ∧ FdT M' w (hwS E (rE E c) (E 0) (nE E c) (E 0 ^ nE E c) 0 0 0).1 (E 0) (nE E c) ∧ ∀ x, x ≠ w → M' x = M x := by
  obtain ⟨d, rfl⟩ := le_ex he
  exact c66 ht hk hdis hm hw hc

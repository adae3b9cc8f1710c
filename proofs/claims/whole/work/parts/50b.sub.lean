/-! Sets as numbers: subsets; one coin less. -/
def sbB (s H : Nat) : Bool := Nat.ble (bit_ s 0) (bit_ H 0) && Nat.ble (bit_ s 1) (bit_ H 1) && Nat.ble (bit_ s 2) (bit_ H 2) && Nat.ble (bit_ s 3) (bit_ H 3) && Nat.ble (bit_ s 4) (bit_ H 4) && Nat.ble (bit_ s 5) (bit_ H 5) && Nat.ble (bit_ s 6) (bit_ H 6) && Nat.ble (bit_ s 7) (bit_ H 7)
def allB (f : Nat → Bool) : Nat → Bool
  | 0 => true
  | n + 1 => f n && allB f n
theorem allB_t {f : Nat → Bool} : ∀ n, allB f n = true → ∀ i, i < n → f i = true := by
  intro n
  induction n with
  | zero => intro _ i hi; omega
  | succ n ih =>
    intro h i hi
    unfold allB at h
    rw [Bool.and_eq_true] at h
    by_cases e : i = n
    · subst e; exact h.1
    · exact ih h.2 i (by omega)
theorem sub_c : allB (fun s => allB (fun H => (Nat.beq (Nat.land s (255 - H)) 0) == sbB s H) 256) 256 = true := by decide +kernel
theorem sub_b {s H : Nat} (hs : s < 256) (hH : H < 256) : (Nat.land s (255 - H) = 0) ↔ ∀ c, c < 8 → bit_ s c ≤ bit_ H c := by
  have e := allB_t 256 (allB_t 256 sub_c s hs) H hH
  rw [beq_iff_eq] at e
  constructor
  · intro h0
    have e2 : sbB s H = true := by rw [← e, h0]; rfl
    unfold sbB at e2
    simp only [Bool.and_eq_true, Nat.ble_eq] at e2
    obtain ⟨⟨⟨⟨⟨⟨⟨b0, b1⟩, b2⟩, b3⟩, b4⟩, b5⟩, b6⟩, b7⟩ := e2
    intro c hc
    match c, hc with
    | 0, _ => exact b0
    | 1, _ => exact b1
    | 2, _ => exact b2
    | 3, _ => exact b3
    | 4, _ => exact b4
    | 5, _ => exact b5
    | 6, _ => exact b6
    | 7, _ => exact b7
    | c + 8, hc => omega
  · intro hb
    have e2 : sbB s H = true := by
      unfold sbB
      simp only [Bool.and_eq_true, Nat.ble_eq]
      exact ⟨⟨⟨⟨⟨⟨⟨hb 0 (by omega), hb 1 (by omega)⟩, hb 2 (by omega)⟩, hb 3 (by omega)⟩, hb 4 (by omega)⟩, hb 5 (by omega)⟩, hb 6 (by omega)⟩, hb 7 (by omega)⟩
    rw [e2] at e
    exact Nat.eq_of_beq_eq_true e
theorem less_b : ∀ s, s < 256 → ∀ c, c < 8 → bit_ s c = 1 → 2 ^ c ≤ s ∧ cnt (s - 2 ^ c) + 1 = cnt s ∧ ∀ k, k < 8 → bit_ (s - 2 ^ c) k = if k = c then 0 else bit_ s k := by decide +kernel
theorem or_b : ∀ c, c < 8 → ∀ a, a < 256 → a < 2 ^ c → nI a ||| (nI 1 <<< (nI c &&& 31)) = nI (a + 2 ^ c) := by decide +kernel
theorem top_b : ∀ n, n < 9 → ∀ s, s < 256 → s < 2 ^ n → ∀ c, c < 8 → n ≤ c → bit_ s c = 0 := by decide +kernel
theorem add_bb : ∀ c, c < 8 → ∀ a, a < 256 → a < 2 ^ c → ∀ k, k < 8 → bit_ (a + 2 ^ c) k = if k = c then 1 else bit_ a k := by decide +kernel

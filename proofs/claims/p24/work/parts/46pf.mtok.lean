/-! ===== the model's tokens beside ours (by hand) ===== -/
/-- the model's number of the token that begins at p -/
def mtok (b : Nat → Int) (n p : Nat) : Int := if p < n then (if tL (b p) = true then 1 else if tD (b p) = true then (if 4 < tE (cD b) n p - p then -1 else 2) else (if 32 < b p then b p else -1)) else 0
theorem mtok_sign {b : Nat → Int} {n p : Nat} {c : Int} (hb : ∀ k, -128 ≤ b k ∧ b k ≤ 127) (hc : 33 ≤ c ∧ c ≤ 127) (h1 : ¬ (97 ≤ c ∧ c ≤ 122)) (h2 : ¬ (48 ≤ c ∧ c ≤ 57)) : mtok b n p = c ↔ tkK b n p = c := by
  have hp := hb p
  unfold mtok tkK
  by_cases l : p < n
  · rw [if_pos l, if_pos l]
    by_cases a : tL (b p) = true
    · rw [if_pos a, if_pos a]
      have w := wdK_rng (b := b) (p := p) (q := tE (cL b) n p)
      exact ⟨fun h => by omega, fun h => by omega⟩
    · rw [if_neg a, if_neg a]
      by_cases e : tD (b p) = true
      · rw [if_pos e, if_pos e]
        by_cases f : 4 < tE (cD b) n p - p
        · rw [if_pos f, if_pos f]
          exact ⟨fun h => by omega, fun h => by omega⟩
        · rw [if_neg f, if_neg f]
          exact ⟨fun h => by omega, fun h => by omega⟩
      · rw [if_neg e, if_neg e]
        by_cases f : 32 < b p
        · rw [if_pos f, if_neg (by omega)]
        · rw [if_neg f]
          refine ⟨fun h => by omega, fun h => ?_⟩
          split at h <;> omega
  · rw [if_neg l, if_neg l]
    exact ⟨fun h => by omega, fun h => by omega⟩
theorem mtok_end {b : Nat → Int} {n p : Nat} (hb : ∀ k, -128 ≤ b k ∧ b k ≤ 127) : mtok b n p = 0 ↔ tkK b n p = 302 := by
  have hp := hb p
  unfold mtok tkK
  by_cases l : p < n
  · rw [if_pos l, if_pos l]
    by_cases a : tL (b p) = true
    · rw [if_pos a, if_pos a]
      have w := wdK_rng (b := b) (p := p) (q := tE (cL b) n p)
      exact ⟨fun h => by omega, fun h => by omega⟩
    · rw [if_neg a, if_neg a]
      by_cases e : tD (b p) = true
      · rw [if_pos e, if_pos e]
        by_cases f : 4 < tE (cD b) n p - p
        · rw [if_pos f, if_pos f]
          exact ⟨fun h => by omega, fun h => by omega⟩
        · rw [if_neg f, if_neg f]
          exact ⟨fun h => by omega, fun h => by omega⟩
      · rw [if_neg e, if_neg e]
        refine ⟨fun h => ?_, fun h => ?_⟩
        · exfalso
          split at h <;> omega
        · exfalso
          split at h <;> omega
  · rw [if_neg l, if_neg l]
    exact ⟨fun _ => rfl, fun _ => rfl⟩
theorem mtok_num {b : Nat → Int} {n p : Nat} (hb : ∀ k, -128 ≤ b k ∧ b k ≤ 127) : mtok b n p = 2 ↔ tkK b n p = 300 := by
  have hp := hb p
  unfold mtok tkK
  by_cases l : p < n
  · rw [if_pos l, if_pos l]
    by_cases a : tL (b p) = true
    · rw [if_pos a, if_pos a]
      have w := wdK_rng (b := b) (p := p) (q := tE (cL b) n p)
      exact ⟨fun h => by omega, fun h => by omega⟩
    · rw [if_neg a, if_neg a]
      by_cases e : tD (b p) = true
      · rw [if_pos e, if_pos e]
        by_cases f : 4 < tE (cD b) n p - p
        · rw [if_pos f, if_pos f]
          exact ⟨fun h => by omega, fun h => by omega⟩
        · rw [if_neg f, if_neg f]
          exact ⟨fun _ => rfl, fun _ => rfl⟩
      · rw [if_neg e, if_neg e]
        refine ⟨fun h => ?_, fun h => ?_⟩
        · exfalso
          split at h <;> omega
        · exfalso
          split at h <;> omega
  · rw [if_neg l, if_neg l]
    exact ⟨fun h => by omega, fun h => by omega⟩
/-- a word of the model's is the one of ours -/
theorem mtok_word {b : Nat → Int} {n p t : Nat} {a : Int} (hb : ∀ k, -128 ≤ b k ∧ b k ≤ 127) (ht : t < 18) (ha : wL[t]? = some a) : (mtok b n p = 1 ∧ tkE b n p - p ≤ 12 ∧ wV b p (tkE b n p - p) = a) ↔ tkK b n p = 256 + (t : Int) := by
  have hp := hb p
  unfold mtok tkK tkE
  by_cases l : p < n
  · rw [if_pos l, if_pos l, if_pos l]
    by_cases c : tL (b p) = true
    · rw [if_pos c, if_pos c, if_pos c]
      unfold wdK
      by_cases m : tE (cL b) n p - p ≤ 12
      · rw [if_pos m, wdI_iff ht ha]
        exact ⟨fun h => h.2.2, fun h => ⟨rfl, m, h⟩⟩
      · rw [if_neg m]
        exact ⟨fun h => absurd h.2.1 m, fun h => by omega⟩
    · rw [if_neg c, if_neg c, if_neg c]
      by_cases e : tD (b p) = true
      · rw [if_pos e, if_pos e, if_pos e]
        by_cases f : 4 < tE (cD b) n p - p
        · rw [if_pos f, if_pos f]
          exact ⟨fun h => by have := h.1; omega, fun h => by omega⟩
        · rw [if_neg f, if_neg f]
          exact ⟨fun h => by have := h.1; omega, fun h => by omega⟩
      · rw [if_neg e, if_neg e, if_neg e]
        refine ⟨fun h => ?_, fun h => ?_⟩
        · exfalso
          have h1 := h.1
          split at h1 <;> omega
        · exfalso
          split at h <;> omega
  · rw [if_neg l, if_neg l, if_neg l]
    exact ⟨fun h => by have := h.1; omega, fun h => by omega⟩
theorem wV_lt {b : Nat → Int} {p : Nat} : ∀ {m : Nat}, (∀ k, k < m → 97 ≤ b (p + k) ∧ b (p + k) ≤ 122) → wV b p m < 27 ^ m
  | 0, _ => by show (0 : Int) < 1; decide
  | m + 1, h => by
    have ih := wV_lt (m := m) (fun k hk => h k (by omega))
    have := h m (by omega)
    have e : (27 : Int) ^ (m + 1) = 27 ^ m * 27 := Int.pow_succ 27 m
    show 27 * wV b p m + (b (p + m) - 96) < (27 : Int) ^ (m + 1)
    rw [e]
    omega

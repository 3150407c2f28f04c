/-! ===== shut: the first order of the least bread (by hand) ===== -/
theorem lmn_all {f : Nat → Int} : ∀ {n i : Nat}, i < n → lmn f n ≤ f i
  | 0, _, h => absurd h (Nat.not_lt_zero _)
  | n + 1, i, h => by
    show (if f n < lmn f n then f n else lmn f n) ≤ f i
    by_cases e : i = n
    · subst e
      split <;> omega
    · have ih := lmn_all (f := f) (n := n) (i := i) (by omega)
      split <;> omega
def am (f : Nat → Int) : Nat → Nat
  | 0 => 0
  | k + 1 => if f k < lmn f k then k else am f k
theorem am_ok {f : Nat → Int} : ∀ {n : Nat}, lmn f n < 100000000 → am f n < n ∧ f (am f n) = lmn f n ∧ ∀ i, i < am f n → lmn f n < f i
  | 0, h => absurd h (by show ¬ (100000000 : Int) < 100000000; omega)
  | n + 1, h => by
    have h : (if f n < lmn f n then f n else lmn f n) < 100000000 := h
    show (if f n < lmn f n then n else am f n) < n + 1 ∧ f (if f n < lmn f n then n else am f n) = (if f n < lmn f n then f n else lmn f n) ∧ ∀ i, i < (if f n < lmn f n then n else am f n) → (if f n < lmn f n then f n else lmn f n) < f i
    by_cases c : f n < lmn f n
    · rw [if_pos c, if_pos c]
      refine ⟨by omega, rfl, fun i hi => ?_⟩
      have := lmn_all (f := f) (n := n) (i := i) hi
      omega
    · rw [if_neg c] at h
      rw [if_neg c, if_neg c]
      obtain ⟨a, b, d⟩ := am_ok (f := f) (n := n) h
      exact ⟨by omega, b, d⟩
/-- the first place where the least is reached is no other -/
theorem am_first {f : Nat → Int} {n i : Nat} (h : lmn f n < 100000000) (hi : i < n) (h1 : f i = lmn f n) (h2 : ∀ j, j < i → ¬ f j = lmn f n) : am f n = i := by
  obtain ⟨a, b, d⟩ := am_ok h
  by_cases c : am f n < i
  · exact absurd b (h2 _ c)
  · by_cases c2 : i < am f n
    · have := d i c2
      omega
    · omega
theorem am_last {f : Nat → Int} {n i : Nat} (h : lmn f n < 100000000) (hi : i + 1 = n) (h2 : ∀ j, j < i → ¬ f j = lmn f n) : am f n = i := by
  obtain ⟨a, b, d⟩ := am_ok h
  by_cases c : am f n < i
  · exact absurd b (h2 _ c)
  · omega
def pth (g : Nat → Nat) : Nat → Nat → Nat
  | s, 0 => s
  | s, j + 1 => pth g (s + 2 ^ g s) j
theorem pth_snoc {g : Nat → Nat} : ∀ {j s : Nat}, pth g s (j + 1) = pth g s j + 2 ^ g (pth g s j)
  | 0, _ => rfl
  | j + 1, s => pth_snoc (j := j) (s := s + 2 ^ g s)
def cndS (M b : Int) (p : Int × Int) : Prop := M < 100000000 ∧ (p.1 = 0 ∨ b + M < p.2)
theorem cnd_step {E c M b : Int} {p : Int × Int} (hM : M ≤ 100000000) (h1 : E < 100000000 → c + E < 100000000) (h2 : ¬ E < 100000000 → 100000000 ≤ c + E) : (cndS E (b + c) (updS M b p) → c + E < M ∧ cndS (c + E) b p) ∧ (¬ cndS E (b + c) (updS M b p) → (cndS (if c + E < M then c + E else M) b p ↔ cndS M b p) ∧ (cndS M b p → ¬ c + E < M)) := by
  obtain ⟨u, v⟩ := p
  unfold cndS updS
  dsimp only
  by_cases a : M < 100000000 ∧ (u = 0 ∨ b + M < v)
  · rw [if_pos a]
    dsimp only
    refine ⟨fun q => by omega, fun q => ?_⟩
    by_cases f : c + E < M
    · exfalso
      by_cases e : E < 100000000
      · omega
      · have := h2 e
        omega
    · rw [if_neg f]
      exact ⟨Iff.rfl, fun _ => f⟩
  · rw [if_neg a]
    dsimp only
    refine ⟨fun q => ?_, fun q => ?_⟩
    · have := h1 q.1
      omega
    · refine ⟨⟨fun z => ?_, fun z => absurd z a⟩, fun z => absurd z a⟩
      by_cases f : c + E < M
      · rw [if_pos f] at z
        exfalso
        by_cases e : E < 100000000
        · omega
        · have := h2 e
          omega
      · rw [if_neg f] at z
        exact z

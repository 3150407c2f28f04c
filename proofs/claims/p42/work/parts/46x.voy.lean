/-! ===== voyages: the most men home (by hand, draft) ===== -/
/-- who waits by ports; voyages made by ships; who rests -/
abbrev yySt : Type := (Nat → Int) × (Nat → Int) × (Nat → Bool)
def yyEl (P : Nat → Int) (d : Int) (x : yySt) (k : Nat) : Bool := !(x.2.2 k) && (decide (x.2.1 k < 3) && decide (2 * P k * x.2.1 k + P k ≤ d))
def yySome (W : Nat → Int) : Nat → Bool
  | 0 => false
  | n + 1 => yySome W n || decide (0 < W n)
def yyCh (el : Nat → Bool) (F : Nat → Int) : Nat → Option Nat
  | 0 => none
  | n + 1 => match yyCh el F n with
    | none => if el n = true then some n else none
    | some b => if el n = true ∧ F n < F b then some n else some b
def yyGo (x : yySt) (s p : Nat) (y : Int) : yySt := (fun i => if i = p then x.1 i - y else x.1 i, fun i => if i = s then x.2.1 i + 1 else x.2.1 i, x.2.2)
def yyRs (x : yySt) (s : Nat) : yySt := (x.1, x.2.1, fun i => if i = s then true else x.2.2 i)
def yyBy (B : Nat → Int) (x : yySt) (s p : Nat) : Int := if x.1 p < B s then x.1 p else B s
def yyMx (g : Nat → Int) (z : Int) : Nat → Int
  | 0 => z
  | n + 1 => if yyMx g z n < g n then g n else yyMx g z n
def yyChs (a c : Nat) (P : Nat → Int) (d : Int) (x : yySt) : Option Nat := if yySome x.1 c = true then yyCh (yyEl P d x) (fun k => 2 * P k * x.2.1 k) a else none
def yyV (a c : Nat) (B P : Nat → Int) (d : Int) : Nat → yySt → Int
  | 0, _ => 0
  | f + 1, x => match yyChs a c P d x with
    | none => 0
    | some s => yyMx (fun p => if 0 < x.1 p then yyBy B x s p + yyV a c B P d f (yyGo x s p (yyBy B x s p)) else 0) (yyV a c B P d f (yyRs x s)) c
theorem yyMx_ge {g : Nat → Int} {z : Int} : ∀ {n : Nat}, z ≤ yyMx g z n ∧ ∀ p, p < n → g p ≤ yyMx g z n
  | 0 => ⟨Int.le_refl _, fun p h => absurd h (Nat.not_lt_zero _)⟩
  | n + 1 => by
    have ih := yyMx_ge (g := g) (z := z) (n := n)
    show z ≤ (if yyMx g z n < g n then g n else yyMx g z n) ∧ ∀ p, p < n + 1 → g p ≤ (if yyMx g z n < g n then g n else yyMx g z n)
    refine ⟨?_, fun p hp => ?_⟩
    · split
      · omega
      · exact ih.1
    · by_cases e : p = n
      · subst e
        split
        · omega
        · omega
      · have := ih.2 p (by omega)
        split
        · omega
        · omega
theorem yyMx_in {g : Nat → Int} {z : Int} : ∀ {n : Nat}, yyMx g z n = z ∨ ∃ p, p < n ∧ yyMx g z n = g p
  | 0 => Or.inl rfl
  | n + 1 => by
    show (if yyMx g z n < g n then g n else yyMx g z n) = z ∨ ∃ p, p < n + 1 ∧ (if yyMx g z n < g n then g n else yyMx g z n) = g p
    by_cases c : yyMx g z n < g n
    · rw [if_pos c]
      exact Or.inr ⟨n, by omega, rfl⟩
    · rw [if_neg c]
      rcases yyMx_in (g := g) (z := z) (n := n) with h | ⟨p, hp, h⟩
      · exact Or.inl h
      · exact Or.inr ⟨p, by omega, h⟩
theorem yyMx_congr {g g' : Nat → Int} {z z' : Int} (hz : z = z') : ∀ {n : Nat}, (∀ p, p < n → g p = g' p) → yyMx g z n = yyMx g' z' n
  | 0, _ => hz
  | n + 1, h => by
    show (if yyMx g z n < g n then g n else yyMx g z n) = (if yyMx g' z' n < g' n then g' n else yyMx g' z' n)
    rw [yyMx_congr hz (n := n) (fun p hp => h p (by omega)), h n (by omega)]
theorem yySome_iff {W : Nat → Int} : ∀ {n : Nat}, yySome W n = true ↔ ∃ p, p < n ∧ 0 < W p
  | 0 => ⟨fun h => (by cases h), fun ⟨p, hp, _⟩ => absurd hp (Nat.not_lt_zero _)⟩
  | n + 1 => by
    show (yySome W n || decide (0 < W n)) = true ↔ _
    rw [Bool.or_eq_true, yySome_iff (n := n), decide_eq_true_eq]
    constructor
    · rintro (⟨p, hp, h⟩ | h)
      · exact ⟨p, by omega, h⟩
      · exact ⟨n, by omega, h⟩
    · rintro ⟨p, hp, h⟩
      by_cases e : p = n
      · subst e
        exact Or.inr h
      · exact Or.inl ⟨p, by omega, h⟩
theorem yyCh_some {el : Nat → Bool} {F : Nat → Int} : ∀ {n s : Nat}, yyCh el F n = some s → s < n ∧ el s = true
  | 0, s, h => by cases h
  | n + 1, s, h => by
    unfold yyCh at h
    split at h
    · next q =>
      split at h
      · next e =>
        cases h
        exact ⟨by omega, e⟩
      · cases h
    · next b q =>
      split at h
      · next e =>
        cases h
        exact ⟨by omega, e.1⟩
      · cases h
        have := yyCh_some q
        exact ⟨by omega, this.2⟩
theorem yyCh_none {el : Nat → Bool} {F : Nat → Int} : ∀ {n : Nat}, yyCh el F n = none → ∀ k, k < n → el k = false
  | 0, _, k, hk => absurd hk (Nat.not_lt_zero _)
  | n + 1, h, k, hk => by
    unfold yyCh at h
    split at h
    · next q =>
      split at h
      · cases h
      · next e =>
        by_cases c : k = n
        · subst c
          cases h2 : el k with
          | true => exact absurd h2 e
          | false => rfl
        · exact yyCh_none q k (by omega)
    · next b q =>
      split at h
      · cases h
      · cases h
theorem yyCh_congr {el el' : Nat → Bool} {F F' : Nat → Int} : ∀ {n : Nat}, (∀ k, k < n → el k = el' k) → (∀ k, k < n → F k = F' k) → yyCh el F n = yyCh el' F' n
  | 0, _, _ => rfl
  | n + 1, h1, h2 => by
    have ih := yyCh_congr (n := n) (fun k hk => h1 k (by omega)) (fun k hk => h2 k (by omega))
    unfold yyCh
    rw [ih, h1 n (by omega), h2 n (by omega)]
    cases q : yyCh el' F' n with
    | none => rfl
    | some b =>
      have hb := (yyCh_some q).1
      dsimp only
      rw [h2 b (by omega)]
/-- what is left to choose: voyages and rests -/
def yyMu (x : yySt) : Nat → Nat
  | 0 => 0
  | n + 1 => yyMu x n + (3 - x.2.1 n).toNat + (bif x.2.2 n then 0 else 1)
theorem yyMu_congr {x y : yySt} : ∀ {n : Nat}, (∀ k, k < n → x.2.1 k = y.2.1 k ∧ x.2.2 k = y.2.2 k) → yyMu x n = yyMu y n
  | 0, _ => rfl
  | n + 1, h => by
    show yyMu x n + (3 - x.2.1 n).toNat + (bif x.2.2 n then 0 else 1) = yyMu y n + (3 - y.2.1 n).toNat + (bif y.2.2 n then 0 else 1)
    rw [yyMu_congr (n := n) (fun k hk => h k (by omega)), (h n (by omega)).1, (h n (by omega)).2]
theorem yyMu_go {x : yySt} {s p : Nat} {y : Int} (hc : x.2.1 s < 3) : ∀ {n : Nat}, s < n → yyMu (yyGo x s p y) n + 1 = yyMu x n
  | 0, h => absurd h (Nat.not_lt_zero _)
  | n + 1, h => by
    show yyMu (yyGo x s p y) n + (3 - (if n = s then x.2.1 n + 1 else x.2.1 n)).toNat + (bif x.2.2 n then 0 else 1) + 1 = yyMu x n + (3 - x.2.1 n).toNat + (bif x.2.2 n then 0 else 1)
    by_cases e : n = s
    · subst e
      have same : yyMu (yyGo x n p y) n = yyMu x n := yyMu_congr (fun k hk => ⟨by show (if k = n then x.2.1 k + 1 else x.2.1 k) = x.2.1 k; exact if_neg (by omega), rfl⟩)
      rw [same, if_pos rfl]
      omega
    · rw [if_neg e]
      have ih := yyMu_go (p := p) (y := y) hc (n := n) (by omega)
      omega
theorem yyMu_rs {x : yySt} {s : Nat} (hr : x.2.2 s = false) : ∀ {n : Nat}, s < n → yyMu (yyRs x s) n + 1 = yyMu x n
  | 0, h => absurd h (Nat.not_lt_zero _)
  | n + 1, h => by
    show yyMu (yyRs x s) n + (3 - x.2.1 n).toNat + (bif (if n = s then true else x.2.2 n) then 0 else 1) + 1 = yyMu x n + (3 - x.2.1 n).toNat + (bif x.2.2 n then 0 else 1)
    by_cases e : n = s
    · subst e
      have same : yyMu (yyRs x n) n = yyMu x n := yyMu_congr (fun k hk => ⟨rfl, by show (if k = n then true else x.2.2 k) = x.2.2 k; exact if_neg (by omega)⟩)
      rw [same, if_pos rfl, hr]
      show yyMu x n + (3 - x.2.1 n).toNat + 0 + 1 = yyMu x n + (3 - x.2.1 n).toNat + 1
      omega
    · rw [if_neg e]
      have ih := yyMu_rs hr (n := n) (by omega)
      omega
theorem yyEl_of {P : Nat → Int} {d : Int} {x : yySt} {k : Nat} (h : yyEl P d x k = true) : x.2.2 k = false ∧ x.2.1 k < 3 ∧ 2 * P k * x.2.1 k + P k ≤ d := by
  unfold yyEl at h
  rw [Bool.and_eq_true, Bool.and_eq_true, decide_eq_true_eq, decide_eq_true_eq, Bool.not_eq_true'] at h
  exact h
theorem yyChs_some {a c : Nat} {P : Nat → Int} {d : Int} {x : yySt} {s : Nat} (h : yyChs a c P d x = some s) : s < a ∧ yyEl P d x s = true ∧ ∃ p, p < c ∧ 0 < x.1 p := by
  unfold yyChs at h
  split at h
  · next q =>
    have := yyCh_some h
    exact ⟨this.1, this.2, yySome_iff.mp q⟩
  · cases h
theorem yyV_fuel {a c : Nat} {B P : Nat → Int} {d : Int} : ∀ (f f' : Nat) (x : yySt), yyMu x a < f → yyMu x a < f' → yyV a c B P d f x = yyV a c B P d f' x
  | 0, _, _, h, _ => absurd h (Nat.not_lt_zero _)
  | _ + 1, 0, _, _, h => absurd h (Nat.not_lt_zero _)
  | f + 1, f' + 1, x, h1, h2 => by
    unfold yyV
    cases q : yyChs a c P d x with
    | none => rfl
    | some s =>
      dsimp only
      obtain ⟨q1, q2, -⟩ := yyChs_some q
      obtain ⟨q3, q4, -⟩ := yyEl_of q2
      have mr := yyMu_rs q3 q1
      refine yyMx_congr (yyV_fuel f f' (yyRs x s) (by omega) (by omega)) (fun p hp => ?_)
      have mg := yyMu_go (p := p) (y := yyBy B x s p) q4 q1
      by_cases w : 0 < x.1 p
      · rw [if_pos w, if_pos w, yyV_fuel f f' (yyGo x s p (yyBy B x s p)) (by omega) (by omega)]
      · rw [if_neg w, if_neg w]
theorem yyCh_min {el : Nat → Bool} {F : Nat → Int} : ∀ {n s : Nat}, yyCh el F n = some s → ∀ k, k < n → el k = true → F s ≤ F k ∧ (F s = F k → s ≤ k)
  | 0, _, _, k, hk, _ => absurd hk (Nat.not_lt_zero _)
  | n + 1, s, h, k, hk, he => by
    unfold yyCh at h
    split at h
    · next q =>
      split at h
      · next e =>
        cases h
        by_cases c : k = n
        · subst c
          exact ⟨Int.le_refl _, fun _ => Nat.le_refl _⟩
        · have := yyCh_none q k (by omega)
          rw [this] at he
          cases he
      · cases h
    · next b q =>
      have hb := (yyCh_some q).1
      split at h
      · next e =>
        cases h
        by_cases c : k = n
        · subst c
          exact ⟨Int.le_refl _, fun _ => Nat.le_refl _⟩
        · have := yyCh_min q k (by omega) he
          exact ⟨by omega, fun z => by omega⟩
      · next e =>
        cases h
        by_cases c : k = n
        · subst c
          have : ¬ F k < F s := fun z => e ⟨he, z⟩
          exact ⟨by omega, fun _ => by omega⟩
        · exact yyCh_min q k (by omega) he
def yyT (W : Nat → Int) : Nat → Int
  | 0 => 0
  | n + 1 => yyT W n + W n
theorem yyT_go {W : Nat → Int} {p : Nat} {y : Int} : ∀ {n : Nat}, p < n → yyT (fun i => if i = p then W i - y else W i) n = yyT W n - y
  | 0, h => absurd h (Nat.not_lt_zero _)
  | n + 1, h => by
    show yyT (fun i => if i = p then W i - y else W i) n + (if n = p then W n - y else W n) = yyT W n + W n - y
    by_cases e : n = p
    · subst e
      have same : ∀ m, m ≤ n → yyT (fun i => if i = n then W i - y else W i) m = yyT W m := by
        intro m
        induction m with
        | zero => intro _; rfl
        | succ m ih =>
          intro hm
          show yyT (fun i => if i = n then W i - y else W i) m + (if m = n then W m - y else W m) = yyT W m + W m
          rw [ih (by omega), if_neg (by omega)]
      rw [same n (Nat.le_refl _), if_pos rfl]
      omega
    · rw [if_neg e, yyT_go (n := n) (by omega)]
      omega
theorem yyT_mono {W W' : Nat → Int} : ∀ {n : Nat}, (∀ p, p < n → W p ≤ W' p) → yyT W n ≤ yyT W' n
  | 0, _ => Int.le_refl _
  | n + 1, h => by
    have ih := yyT_mono (n := n) (fun p hp => h p (by omega))
    have := h n (by omega)
    show yyT W n + W n ≤ yyT W' n + W' n
    omega
theorem yyT_zero {W : Nat → Int} : ∀ {n : Nat}, (∀ p, p < n → W p = 0) → yyT W n = 0
  | 0, _ => rfl
  | n + 1, h => by
    show yyT W n + W n = 0
    rw [yyT_zero (n := n) (fun p hp => h p (by omega)), h n (by omega)]
    rfl
theorem yyMu_le {x : yySt} : ∀ {n : Nat}, (∀ k, k < n → 0 ≤ x.2.1 k) → yyMu x n ≤ 4 * n
  | 0, _ => Nat.le_refl _
  | n + 1, h => by
    have ih := yyMu_le (n := n) (fun k hk => h k (by omega))
    have := h n (by omega)
    show yyMu x n + (3 - x.2.1 n).toNat + (bif x.2.2 n then 0 else 1) ≤ 4 * (n + 1)
    cases x.2.2 n with
    | true => show yyMu x n + (3 - x.2.1 n).toNat + 0 ≤ 4 * (n + 1); omega
    | false => show yyMu x n + (3 - x.2.1 n).toNat + 1 ≤ 4 * (n + 1); omega
/-- the most men home from here on -/
def yyW (a c : Nat) (B P : Nat → Int) (d : Int) (x : yySt) : Int := yyV a c B P d 40 x
theorem yyW_none {a c : Nat} {B P : Nat → Int} {d : Int} {x : yySt} (h : yyChs a c P d x = none) : yyW a c B P d x = 0 := by
  unfold yyW yyV
  rw [h]
theorem yyW_some {a c : Nat} {B P : Nat → Int} {d : Int} {x : yySt} {s : Nat} (ha : a ≤ 3) (hx : ∀ k, k < a → 0 ≤ x.2.1 k) (h : yyChs a c P d x = some s) : yyW a c B P d x = yyMx (fun p => if 0 < x.1 p then yyBy B x s p + yyW a c B P d (yyGo x s p (yyBy B x s p)) else 0) (yyW a c B P d (yyRs x s)) c := by
  have hm := yyMu_le hx
  obtain ⟨q1, q2, -⟩ := yyChs_some h
  obtain ⟨q3, q4, -⟩ := yyEl_of q2
  have mr := yyMu_rs q3 q1
  have e : yyW a c B P d x = yyMx (fun p => if 0 < x.1 p then yyBy B x s p + yyV a c B P d 39 (yyGo x s p (yyBy B x s p)) else 0) (yyV a c B P d 39 (yyRs x s)) c := by
    show (match yyChs a c P d x with
      | none => 0
      | some s => yyMx (fun p => if 0 < x.1 p then yyBy B x s p + yyV a c B P d 39 (yyGo x s p (yyBy B x s p)) else 0) (yyV a c B P d 39 (yyRs x s)) c) = _
    rw [h]
  rw [e]
  refine yyMx_congr (yyV_fuel 39 40 (yyRs x s) (by omega) (by omega)) (fun p hp => ?_)
  have mg := yyMu_go (p := p) (y := yyBy B x s p) q4 q1
  by_cases w : 0 < x.1 p
  · rw [if_pos w, if_pos w]
    unfold yyW
    rw [yyV_fuel 39 40 (yyGo x s p (yyBy B x s p)) (by omega) (by omega)]
  · rw [if_neg w, if_neg w]
theorem yyBy_rng {B : Nat → Int} {x : yySt} {s p : Nat} (hB : 1 ≤ B s) (h : 0 < x.1 p) : 0 < yyBy B x s p ∧ yyBy B x s p ≤ x.1 p := by
  unfold yyBy
  split <;> omega
theorem yyGo_c {x : yySt} {s p : Nat} {y : Int} {a : Nat} (hx : ∀ k, k < a → 0 ≤ x.2.1 k) : ∀ k, k < a → 0 ≤ (yyGo x s p y).2.1 k := by
  intro k hk
  have := hx k hk
  show 0 ≤ (if k = s then x.2.1 k + 1 else x.2.1 k)
  split <;> omega
/-- all who wait are the most -/
theorem yyW_rng {a c : Nat} {B P : Nat → Int} {d : Int} (ha : a ≤ 3) (hB : ∀ k, 1 ≤ B k) : ∀ (n : Nat) (x : yySt), yyMu x a ≤ n → (∀ k, k < a → 0 ≤ x.2.1 k) → (∀ p, p < c → 0 ≤ x.1 p) → 0 ≤ yyW a c B P d x ∧ yyW a c B P d x ≤ yyT x.1 c := by
  intro n
  induction n with
  | zero =>
    intro x hm hx hw
    have t0 : 0 ≤ yyT x.1 c := by
      have := yyT_mono (W := fun _ => 0) (W' := x.1) (n := c) hw
      rw [yyT_zero (W := fun _ => 0) (fun _ _ => rfl)] at this
      exact this
    cases q : yyChs a c P d x with
    | none =>
      rw [yyW_none q]
      omega
    | some s =>
      exfalso
      obtain ⟨q1, q2, -⟩ := yyChs_some q
      have mr := yyMu_rs (yyEl_of q2).1 q1
      omega
  | succ n ih =>
    intro x hm hx hw
    have t0 : 0 ≤ yyT x.1 c := by
      have := yyT_mono (W := fun _ => 0) (W' := x.1) (n := c) hw
      rw [yyT_zero (W := fun _ => 0) (fun _ _ => rfl)] at this
      exact this
    cases q : yyChs a c P d x with
    | none =>
      rw [yyW_none q]
      omega
    | some s =>
      obtain ⟨q1, q2, -⟩ := yyChs_some q
      obtain ⟨q3, q4, -⟩ := yyEl_of q2
      have mr := yyMu_rs q3 q1
      have ir := ih (yyRs x s) (by omega) hx hw
      have ir2 : yyW a c B P d (yyRs x s) ≤ yyT x.1 c := ir.2
      rw [yyW_some ha hx q]
      have g1 := (yyMx_ge (g := fun p => if 0 < x.1 p then yyBy B x s p + yyW a c B P d (yyGo x s p (yyBy B x s p)) else 0) (z := yyW a c B P d (yyRs x s)) (n := c)).1
      refine ⟨by omega, ?_⟩
      rcases yyMx_in (g := fun p => if 0 < x.1 p then yyBy B x s p + yyW a c B P d (yyGo x s p (yyBy B x s p)) else 0) (z := yyW a c B P d (yyRs x s)) (n := c) with e | ⟨p, hp, e⟩
      · rw [e]
        exact ir2
      · rw [e]
        by_cases w : 0 < x.1 p
        · rw [if_pos w]
          have b := yyBy_rng (B := B) (s := s) (hB s) w
          have mg := yyMu_go (p := p) (y := yyBy B x s p) q4 q1
          have ig := ih (yyGo x s p (yyBy B x s p)) (by omega) (yyGo_c hx) (fun i hi => by
            have := hw i hi
            show 0 ≤ (if i = p then x.1 i - yyBy B x s p else x.1 i)
            split
            · next z => rw [z]; omega
            · omega)
          have tg : yyT (yyGo x s p (yyBy B x s p)).1 c = yyT x.1 c - yyBy B x s p := yyT_go hp
          rw [tg] at ig
          omega
        · rw [if_neg w]
          exact t0
/-- the one has less to bring home, but ships that are no worse -/
def yyRel (a c : Nat) (A X : yySt) : Prop := (∀ k, k < a → X.2.2 k = true ∨ (A.2.1 k = X.2.1 k ∧ A.2.2 k = X.2.2 k)) ∧ ∀ p, p < c → 0 ≤ A.1 p ∧ A.1 p ≤ X.1 p
theorem yyW_dom {a c : Nat} {B P : Nat → Int} {d : Int} (ha : a ≤ 3) (hB : ∀ k, 1 ≤ B k) : ∀ (n : Nat) (A X : yySt), yyMu A a + yyMu X a ≤ n → (∀ k, k < a → 0 ≤ A.2.1 k) → (∀ k, k < a → 0 ≤ X.2.1 k) → yyRel a c A X → yyW a c B P d X ≤ yyW a c B P d A + (yyT X.1 c - yyT A.1 c) := by
  intro n
  induction n with
  | zero =>
    intro A X hm hA hX hr
    have rA := (yyW_rng (P := P) (d := d) ha hB _ A (Nat.le_refl _) hA (fun p hp => (hr.2 p hp).1)).1
    have tm := yyT_mono (fun p hp => (hr.2 p hp).2)
    cases q : yyChs a c P d X with
    | none =>
      rw [yyW_none q]
      omega
    | some s =>
      exfalso
      obtain ⟨q1, q2, -⟩ := yyChs_some q
      have mr := yyMu_rs (yyEl_of q2).1 q1
      omega
  | succ n ih =>
    intro A X hm hA hX hr
    have rA := (yyW_rng (P := P) (d := d) ha hB _ A (Nat.le_refl _) hA (fun p hp => (hr.2 p hp).1)).1
    have tm := yyT_mono (fun p hp => (hr.2 p hp).2)
    cases qX : yyChs a c P d X with
    | none =>
      rw [yyW_none qX]
      omega
    | some t =>
      obtain ⟨x1, x2, -⟩ := yyChs_some qX
      obtain ⟨x3, x4, x5⟩ := yyEl_of x2
      have eX := yyW_some (B := B) ha hX qX
      rcases yyMx_in (g := fun p => if 0 < X.1 p then yyBy B X t p + yyW a c B P d (yyGo X t p (yyBy B X t p)) else 0) (z := yyW a c B P d (yyRs X t)) (n := c) with e | ⟨p, hp, e⟩
      · rw [eX, e]
        have mr := yyMu_rs x3 x1
        exact ih A (yyRs X t) (by omega) hA hX ⟨fun k hk => by
          show (if k = t then true else X.2.2 k) = true ∨ (A.2.1 k = X.2.1 k ∧ A.2.2 k = (if k = t then true else X.2.2 k))
          by_cases z : k = t
          · exact Or.inl (if_pos z)
          · rw [if_neg z]
            exact hr.1 k hk, hr.2⟩
      · rw [eX, e]
        by_cases w : 0 < X.1 p
        · rw [if_pos w]
          have bX := yyBy_rng (B := B) (s := t) (hB t) w
          have ht : A.2.1 t = X.2.1 t ∧ A.2.2 t = X.2.2 t := by
            rcases hr.1 t x1 with z | z
            · rw [x3] at z
              cases z
            · exact z
          have elt : yyEl P d A t = true := by
            have x2' := x2
            unfold yyEl at x2' ⊢
            rw [ht.1, ht.2]
            exact x2'
          cases qA : yyChs a c P d A with
          | none =>
            have noA : ∀ q, q < c → A.1 q = 0 := by
              intro q hq
              by_cases z : 0 < A.1 q
              · exfalso
                unfold yyChs at qA
                rw [if_pos (yySome_iff.mpr ⟨q, hq, z⟩)] at qA
                have := yyCh_none qA t x1
                rw [elt] at this
                cases this
              · have := (hr.2 q hq).1
                omega
            have mg := yyMu_go (p := p) (y := yyBy B X t p) x4 x1
            have rX := (yyW_rng (P := P) (d := d) ha hB _ X (Nat.le_refl _) hX (fun p hp => by have := hr.2 p hp; omega)).2
            rw [eX, e] at rX
            rw [if_pos w] at rX
            rw [yyW_none qA, yyT_zero noA]
            omega
          | some u =>
            obtain ⟨u1, u2, u3⟩ := yyChs_some qA
            obtain ⟨u4, u5, u6⟩ := yyEl_of u2
            have eA := yyW_some (B := B) ha hA qA
            have gA := yyMx_ge (g := fun p => if 0 < A.1 p then yyBy B A u p + yyW a c B P d (yyGo A u p (yyBy B A u p)) else 0) (z := yyW a c B P d (yyRs A u)) (n := c)
            rw [← eA] at gA
            by_cases ut : u = t
            · subst ut
              have pick : ∃ q, q < c ∧ 0 < A.1 q ∧ (q = p ∨ A.1 p = 0) := by
                by_cases z : 0 < A.1 p
                · exact ⟨p, hp, z, Or.inl rfl⟩
                · obtain ⟨q, hq, z2⟩ := u3
                  exact ⟨q, hq, z2, Or.inr (by have := (hr.2 p hp).1; omega)⟩
              obtain ⟨q, hq, wq, hqp⟩ := pick
              have bA := yyBy_rng (B := B) (s := u) (hB u) wq
              have mA := yyMu_go (p := q) (y := yyBy B A u q) u5 u1
              have mX := yyMu_go (p := p) (y := yyBy B X u p) x4 x1
              have i1 := ih (yyGo A u q (yyBy B A u q)) (yyGo X u p (yyBy B X u p)) (by omega) (yyGo_c hA) (yyGo_c hX) ⟨fun k hk => by
                show X.2.2 k = true ∨ ((if k = u then A.2.1 k + 1 else A.2.1 k) = (if k = u then X.2.1 k + 1 else X.2.1 k) ∧ A.2.2 k = X.2.2 k)
                rcases hr.1 k hk with z | z
                · exact Or.inl z
                · exact Or.inr ⟨by rw [z.1], z.2⟩, fun i hi => by
                show 0 ≤ (if i = q then A.1 i - yyBy B A u q else A.1 i) ∧ (if i = q then A.1 i - yyBy B A u q else A.1 i) ≤ (if i = p then X.1 i - yyBy B X u p else X.1 i)
                have hi2 := hr.2 i hi
                have hp2 := hr.2 p hp
                have hq2 := hr.2 q hq
                rcases hqp with z | z
                · subst z
                  by_cases c1 : i = q
                  · subst c1
                    rw [if_pos rfl, if_pos rfl]
                    unfold yyBy
                    split <;> split <;> omega
                  · rw [if_neg c1, if_neg c1]
                    exact hi2
                · by_cases c1 : i = q
                  · by_cases c2 : i = p
                    · exfalso
                      rw [← c1, c2, z] at wq
                      omega
                    · rw [if_pos c1, if_neg c2, c1]
                      omega
                  · rw [if_neg c1]
                    by_cases c2 : i = p
                    · rw [if_pos c2, c2, z]
                      omega
                    · rw [if_neg c2]
                      exact hi2⟩
              have tA : yyT (yyGo A u q (yyBy B A u q)).1 c = yyT A.1 c - yyBy B A u q := yyT_go hq
              have tX : yyT (yyGo X u p (yyBy B X u p)).1 c = yyT X.1 c - yyBy B X u p := yyT_go hp
              rw [tA, tX] at i1
              have g2 := gA.2 q hq
              rw [if_pos wq] at g2
              omega
            · have ru : X.2.2 u = true := by
                rcases hr.1 u u1 with z | z
                · exact z
                · cases zz : X.2.2 u with
                  | true => rfl
                  | false =>
                    exfalso
                    have elu : yyEl P d X u = true := by
                      have u2' := u2
                      unfold yyEl at u2' ⊢
                      rw [← z.1, ← z.2]
                      exact u2'
                    have cX : yyCh (yyEl P d X) (fun k => 2 * P k * X.2.1 k) a = some t := by
                      have q9 := qX
                      unfold yyChs at q9
                      split at q9
                      · exact q9
                      · cases q9
                    have cA : yyCh (yyEl P d A) (fun k => 2 * P k * A.2.1 k) a = some u := by
                      have q9 := qA
                      unfold yyChs at q9
                      split at q9
                      · exact q9
                      · cases q9
                    have m1 := yyCh_min cX u u1 elu
                    have m2 := yyCh_min cA t x1 elt
                    rw [ht.1, z.1] at m2
                    have e1 := m1.2 (by omega)
                    have e2 := m2.2 (by omega)
                    omega
              have mr := yyMu_rs u4 u1
              have i1 := ih (yyRs A u) X (by omega) hA hX ⟨fun k hk => by
                show X.2.2 k = true ∨ (A.2.1 k = X.2.1 k ∧ (if k = u then true else A.2.2 k) = X.2.2 k)
                by_cases z : k = u
                · rw [z]
                  exact Or.inl ru
                · rw [if_neg z]
                  exact hr.1 k hk, hr.2⟩
              have i2 : yyW a c B P d X ≤ yyW a c B P d (yyRs A u) + (yyT X.1 c - yyT A.1 c) := i1
              rw [eX, e] at i2
              rw [if_pos w] at i2
              have g1 := gA.1
              omega
        · rw [if_neg w]
          omega
/-- to rest is never better than to go -/
theorem yy_rest {a c : Nat} {B P : Nat → Int} {d : Int} {x : yySt} {s p : Nat} (ha : a ≤ 3) (hB : ∀ k, 1 ≤ B k) (hx : ∀ k, k < a → 0 ≤ x.2.1 k) (hw : ∀ p, p < c → 0 ≤ x.1 p) (hp : p < c) (w : 0 < x.1 p) (h : yyChs a c P d x = some s) : yyW a c B P d (yyRs x s) ≤ yyBy B x s p + yyW a c B P d (yyGo x s p (yyBy B x s p)) := by
  have b := yyBy_rng (B := B) (s := s) (hB s) w
  have k := yyW_dom (P := P) (d := d) ha hB _ (yyGo x s p (yyBy B x s p)) (yyRs x s) (Nat.le_refl _) (yyGo_c hx) hx ⟨fun k hk => by
    show (if k = s then true else x.2.2 k) = true ∨ ((if k = s then x.2.1 k + 1 else x.2.1 k) = x.2.1 k ∧ x.2.2 k = (if k = s then true else x.2.2 k))
    by_cases z : k = s
    · exact Or.inl (if_pos z)
    · rw [if_neg z, if_neg z]
      exact Or.inr ⟨rfl, rfl⟩, fun i hi => by
    have := hw i hi
    show 0 ≤ (if i = p then x.1 i - yyBy B x s p else x.1 i) ∧ (if i = p then x.1 i - yyBy B x s p else x.1 i) ≤ x.1 i
    split
    · next z => rw [z]; omega
    · omega⟩
  have tg : yyT (yyGo x s p (yyBy B x s p)).1 c = yyT x.1 c - yyBy B x s p := yyT_go hp
  have tr : yyT (yyRs x s).1 c = yyT x.1 c := rfl
  rw [tg, tr] at k
  omega

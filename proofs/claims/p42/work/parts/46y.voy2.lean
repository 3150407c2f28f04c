/-! ===== voyages: what both searches do with the most (by hand, draft) ===== -/
/-- the best so far (has one, how many), behind a part of the search that brings E more than b at most -/
def upX (E b : Int) (p : Int × Int) : Int × Int := if p.1 = 0 ∨ p.2 < b + E then (1, b + E) else p
theorem upX_two {E M b : Int} {p : Int × Int} : upX E b (upX M b p) = upX (if M < E then E else M) b p := by
  obtain ⟨u, v⟩ := p
  unfold upX
  dsimp only
  by_cases a : u = 0 ∨ v < b + M
  · rw [if_pos a]
    dsimp only
    by_cases e : M < E
    · rw [if_pos e, if_pos (by omega), if_pos (by omega)]
    · rw [if_neg e, if_neg (by omega), if_pos a]
  · rw [if_neg a]
    by_cases e : M < E
    · rw [if_pos e]
    · rw [if_neg e, if_neg a, if_neg (by omega)]
theorem upX_shift {E b y : Int} {p : Int × Int} : upX E (b + y) p = upX (y + E) b p := by
  unfold upX
  have h : b + y + E = b + (y + E) := by omega
  rw [h]
/-- the best of the ports below k alone; -1: none waits there -/
def yyG (a c : Nat) (B P : Nat → Int) (d : Int) (x : yySt) (s p : Nat) : Int := if 0 < x.1 p then yyBy B x s p + yyW a c B P d (yyGo x s p (yyBy B x s p)) else -1
theorem yyG_mx {a c : Nat} {B P : Nat → Int} {d : Int} {x : yySt} {s : Nat} (ha : a ≤ 3) (hB : ∀ k, 1 ≤ B k) (hx : ∀ k, k < a → 0 ≤ x.2.1 k) (hw : ∀ p, p < c → 0 ≤ x.1 p) (h : yyChs a c P d x = some s) : yyW a c B P d x = yyMx (yyG a c B P d x s) (-1) c := by
  rw [yyW_some ha hx h]
  obtain ⟨q1, q2, p0, hp0, w0⟩ := yyChs_some h
  have e0 : yyG a c B P d x s p0 = yyBy B x s p0 + yyW a c B P d (yyGo x s p0 (yyBy B x s p0)) := if_pos w0
  have r0 := yy_rest (P := P) (d := d) ha hB hx hw hp0 w0 h
  have rr := (yyW_rng (P := P) (d := d) ha hB _ (yyRs x s) (Nat.le_refl _) hx hw).1
  have g1 := yyMx_ge (g := fun p => if 0 < x.1 p then yyBy B x s p + yyW a c B P d (yyGo x s p (yyBy B x s p)) else 0) (z := yyW a c B P d (yyRs x s)) (n := c)
  have g2 := yyMx_ge (g := yyG a c B P d x s) (z := -1) (n := c)
  have g20 := g2.2 p0 hp0
  have le1 : yyMx (fun p => if 0 < x.1 p then yyBy B x s p + yyW a c B P d (yyGo x s p (yyBy B x s p)) else 0) (yyW a c B P d (yyRs x s)) c ≤ yyMx (yyG a c B P d x s) (-1) c := by
    rcases yyMx_in (g := fun p => if 0 < x.1 p then yyBy B x s p + yyW a c B P d (yyGo x s p (yyBy B x s p)) else 0) (z := yyW a c B P d (yyRs x s)) (n := c) with e | ⟨p, hp, e⟩
    · rw [e]
      omega
    · rw [e]
      by_cases w : 0 < x.1 p
      · rw [if_pos w]
        have e1 : yyG a c B P d x s p = yyBy B x s p + yyW a c B P d (yyGo x s p (yyBy B x s p)) := if_pos w
        have := g2.2 p hp
        omega
      · rw [if_neg w]
        omega
  have le2 : yyMx (yyG a c B P d x s) (-1) c ≤ yyMx (fun p => if 0 < x.1 p then yyBy B x s p + yyW a c B P d (yyGo x s p (yyBy B x s p)) else 0) (yyW a c B P d (yyRs x s)) c := by
    have g11 := g1.1
    rcases yyMx_in (g := yyG a c B P d x s) (z := -1) (n := c) with e | ⟨p, hp, e⟩
    · rw [e]
      omega
    · rw [e]
      have g3 := g1.2 p hp
      by_cases w : 0 < x.1 p
      · have e1 : yyG a c B P d x s p = yyBy B x s p + yyW a c B P d (yyGo x s p (yyBy B x s p)) := if_pos w
        rw [if_pos w] at g3
        omega
      · have e1 : yyG a c B P d x s p = -1 := if_neg w
        omega
  omega
/-- berths of the voyages that are left -/
def yyQ (B M : Nat → Int) (x : yySt) : Nat → Int
  | 0 => 0
  | n + 1 => yyQ B M x n + (M n - x.2.1 n) * B n
theorem yyQ_go {B M : Nat → Int} {x : yySt} {s p : Nat} {y : Int} : ∀ {n : Nat}, s < n → yyQ B M (yyGo x s p y) n = yyQ B M x n - B s
  | 0, h => absurd h (Nat.not_lt_zero _)
  | n + 1, h => by
    show yyQ B M (yyGo x s p y) n + (M n - (if n = s then x.2.1 n + 1 else x.2.1 n)) * B n = yyQ B M x n + (M n - x.2.1 n) * B n - B s
    by_cases e : n = s
    · subst e
      have same : ∀ m, m ≤ n → yyQ B M (yyGo x n p y) m = yyQ B M x m := by
        intro m
        induction m with
        | zero => intro _; rfl
        | succ m ih =>
          intro hm
          show yyQ B M (yyGo x n p y) m + (M m - (if m = n then x.2.1 m + 1 else x.2.1 m)) * B m = yyQ B M x m + (M m - x.2.1 m) * B m
          rw [ih (by omega), if_neg (by omega)]
      rw [same n (Nat.le_refl _), if_pos rfl]
      have e1 : (M n - (x.2.1 n + 1)) * B n = (M n - x.2.1 n) * B n - B n := by
        have : M n - (x.2.1 n + 1) = (M n - x.2.1 n) - 1 := by omega
        rw [this, Int.sub_mul, Int.one_mul]
      omega
    · rw [if_neg e, yyQ_go (n := n) (by omega)]
      omega
theorem yyQ_pos {B M : Nat → Int} {x : yySt} : ∀ {n : Nat}, (∀ k, k < n → 0 ≤ B k) → (∀ k, k < n → x.2.1 k ≤ M k) → 0 ≤ yyQ B M x n
  | 0, _, _ => Int.le_refl _
  | n + 1, h1, h2 => by
    have ih := yyQ_pos (n := n) (fun k hk => h1 k (by omega)) (fun k hk => h2 k (by omega))
    have p := Int.mul_nonneg (a := M n - x.2.1 n) (b := B n) (by have := h2 n (by omega); omega) (h1 n (by omega))
    show 0 ≤ yyQ B M x n + (M n - x.2.1 n) * B n
    omega
/-- nobody brings home more than the berths that are left -/
theorem yyW_cap {a c : Nat} {B P M : Nat → Int} {d : Int} (ha : a ≤ 3) (hB : ∀ k, 1 ≤ B k) (hM : ∀ (x : yySt) k, k < a → yyEl P d x k = true → x.2.1 k < M k) : ∀ (n : Nat) (x : yySt), yyMu x a ≤ n → (∀ k, k < a → 0 ≤ x.2.1 k ∧ x.2.1 k ≤ M k) → yyW a c B P d x ≤ yyQ B M x a := by
  intro n
  induction n with
  | zero =>
    intro x hm hx
    have q0 := yyQ_pos (B := B) (M := M) (x := x) (n := a) (fun k _ => by have := hB k; omega) (fun k hk => (hx k hk).2)
    cases q : yyChs a c P d x with
    | none =>
      rw [yyW_none q]
      exact q0
    | some s =>
      exfalso
      obtain ⟨q1, q2, -⟩ := yyChs_some q
      have mr := yyMu_rs (yyEl_of q2).1 q1
      omega
  | succ n ih =>
    intro x hm hx
    have q0 := yyQ_pos (B := B) (M := M) (x := x) (n := a) (fun k _ => by have := hB k; omega) (fun k hk => (hx k hk).2)
    cases q : yyChs a c P d x with
    | none =>
      rw [yyW_none q]
      exact q0
    | some s =>
      obtain ⟨q1, q2, -⟩ := yyChs_some q
      obtain ⟨q3, q4, -⟩ := yyEl_of q2
      have mr := yyMu_rs q3 q1
      have ir := ih (yyRs x s) (by omega) hx
      have er : ∀ m, yyQ B M (yyRs x s) m = yyQ B M x m := by
        intro m
        induction m with
        | zero => rfl
        | succ m im =>
          show yyQ B M (yyRs x s) m + (M m - x.2.1 m) * B m = yyQ B M x m + (M m - x.2.1 m) * B m
          rw [im]
      rw [er] at ir
      rw [yyW_some ha (fun k hk => (hx k hk).1) q]
      rcases yyMx_in (g := fun p => if 0 < x.1 p then yyBy B x s p + yyW a c B P d (yyGo x s p (yyBy B x s p)) else 0) (z := yyW a c B P d (yyRs x s)) (n := c) with e | ⟨p, hp, e⟩
      · rw [e]
        exact ir
      · rw [e]
        by_cases w : 0 < x.1 p
        · rw [if_pos w]
          have mg := yyMu_go (p := p) (y := yyBy B x s p) q4 q1
          have ig := ih (yyGo x s p (yyBy B x s p)) (by omega) (fun k hk => by
            have := hx k hk
            show 0 ≤ (if k = s then x.2.1 k + 1 else x.2.1 k) ∧ (if k = s then x.2.1 k + 1 else x.2.1 k) ≤ M k
            by_cases z : k = s
            · subst z
              have := hM x k hk q2
              rw [if_pos rfl]
              omega
            · rw [if_neg z]
              exact this)
          rw [yyQ_go q1] at ig
          have b : yyBy B x s p ≤ B s := by
            unfold yyBy
            split <;> omega
          omega
        · rw [if_neg w]
          exact q0

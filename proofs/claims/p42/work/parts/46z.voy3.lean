/-! ===== voyages: the first best row of ports; the best so far with its row (by hand) ===== -/
/-- the greatest of the first n, and what goes with the first such -/
def yyMP (g : Nat → Int) (h : Nat → List Int) : Nat → Int × List Int
  | 0 => (-1, [])
  | n + 1 => if (yyMP g h n).1 < g n then (g n, h n) else yyMP g h n
theorem yyMP_fst {g : Nat → Int} {h : Nat → List Int} : ∀ {n : Nat}, (yyMP g h n).1 = yyMx g (-1) n
  | 0 => rfl
  | n + 1 => by
    have ih := yyMP_fst (g := g) (h := h) (n := n)
    show (if (yyMP g h n).1 < g n then (g n, h n) else yyMP g h n).1 = (if yyMx g (-1) n < g n then g n else yyMx g (-1) n)
    by_cases c : yyMx g (-1) n < g n
    · rw [if_pos c, if_pos (show (yyMP g h n).1 < g n by rw [ih]; exact c)]
    · rw [if_neg c, if_neg (show ¬ (yyMP g h n).1 < g n by rw [ih]; exact c)]
      exact ih
theorem yyMP_congr {g : Nat → Int} {h h' : Nat → List Int} : ∀ {n : Nat}, (∀ p, p < n → h p = h' p) → yyMP g h n = yyMP g h' n
  | 0, _ => rfl
  | n + 1, e => by
    show (if (yyMP g h n).1 < g n then (g n, h n) else yyMP g h n) = (if (yyMP g h' n).1 < g n then (g n, h' n) else yyMP g h' n)
    rw [yyMP_congr (h := h) (h' := h') (n := n) (fun p hp => e p (by omega)), e n (by omega)]
theorem yyMP_skip {g : Nat → Int} {h : Nat → List Int} {n : Nat} (e : g n = -1) : yyMP g h (n + 1) = yyMP g h n := by
  have f := yyMP_fst (g := g) (h := h) (n := n)
  have m := (yyMx_ge (g := g) (z := -1) (n := n)).1
  exact if_neg (show ¬ (yyMP g h n).1 < g n by omega)
def yyPt (a c : Nat) (B P : Nat → Int) (d : Int) : Nat → yySt → List Int
  | 0, _ => []
  | f + 1, x => match yyChs a c P d x with
    | none => []
    | some s => (yyMP (yyG a c B P d x s) (fun p => (p : Int) :: yyPt a c B P d f (yyGo x s p (yyBy B x s p))) c).2
theorem yyPt_fuel {a c : Nat} {B P : Nat → Int} {d : Int} : ∀ (f f' : Nat) (x : yySt), yyMu x a < f → yyMu x a < f' → yyPt a c B P d f x = yyPt a c B P d f' x
  | 0, _, _, h, _ => absurd h (Nat.not_lt_zero _)
  | _ + 1, 0, _, _, h => absurd h (Nat.not_lt_zero _)
  | f + 1, f' + 1, x, h1, h2 => by
    unfold yyPt
    cases q : yyChs a c P d x with
    | none => rfl
    | some s =>
      dsimp only
      obtain ⟨q1, q2, -⟩ := yyChs_some q
      obtain ⟨q3, q4, -⟩ := yyEl_of q2
      refine congrArg Prod.snd (yyMP_congr (fun p hp => ?_))
      have mg := yyMu_go (p := p) (y := yyBy B x s p) q4 q1
      rw [yyPt_fuel f f' (yyGo x s p (yyBy B x s p)) (by omega) (by omega)]
/-- the first best row of ports from here on -/
def yyL (a c : Nat) (B P : Nat → Int) (d : Int) (x : yySt) : List Int := yyPt a c B P d 40 x
theorem yyL_none {a c : Nat} {B P : Nat → Int} {d : Int} {x : yySt} (h : yyChs a c P d x = none) : yyL a c B P d x = [] := by
  unfold yyL yyPt
  rw [h]
def yyH (a c : Nat) (B P : Nat → Int) (d : Int) (x : yySt) (s p : Nat) : List Int := (p : Int) :: yyL a c B P d (yyGo x s p (yyBy B x s p))
theorem yyL_some {a c : Nat} {B P : Nat → Int} {d : Int} {x : yySt} {s : Nat} (ha : a ≤ 3) (hx : ∀ k, k < a → 0 ≤ x.2.1 k) (h : yyChs a c P d x = some s) : yyL a c B P d x = (yyMP (yyG a c B P d x s) (yyH a c B P d x s) c).2 := by
  have hm := yyMu_le hx
  obtain ⟨q1, q2, -⟩ := yyChs_some h
  obtain ⟨q3, q4, -⟩ := yyEl_of q2
  have e : yyL a c B P d x = (yyMP (yyG a c B P d x s) (fun p => (p : Int) :: yyPt a c B P d 39 (yyGo x s p (yyBy B x s p))) c).2 := by
    show (match yyChs a c P d x with
      | none => []
      | some s => (yyMP (yyG a c B P d x s) (fun p => (p : Int) :: yyPt a c B P d 39 (yyGo x s p (yyBy B x s p))) c).2) = _
    rw [h]
  rw [e]
  refine congrArg Prod.snd (yyMP_congr (fun p hp => ?_))
  have mg := yyMu_go (p := p) (y := yyBy B x s p) q4 q1
  unfold yyH yyL
  rw [yyPt_fuel 39 40 (yyGo x s p (yyBy B x s p)) (by omega) (by omega)]
/-- the best so far: how many, which row; behind a part of the search that brings E more than b, by l behind pre -/
def upY (E : Int) (l : List Int) (b : Int) (pre : List Int) (z : Option (Int × List Int)) : Option (Int × List Int) :=
  match z with
  | none => if 0 ≤ E then some (b + E, pre ++ l) else none
  | some m => if 0 ≤ E ∧ m.1 < b + E then some (b + E, pre ++ l) else some m
theorem upY_neg {E : Int} {l : List Int} {b : Int} {pre : List Int} {z : Option (Int × List Int)} (h : E < 0) : upY E l b pre z = z := by
  cases z with
  | none => exact if_neg (by omega)
  | some m => exact if_neg (by omega)
theorem upY_none {E : Int} {l : List Int} {b : Int} {pre : List Int} (h : 0 ≤ E) : upY E l b pre none = some (b + E, pre ++ l) := if_pos h
theorem upY_put {E : Int} {l : List Int} {b : Int} {pre : List Int} {m : Int × List Int} (h : 0 ≤ E) (h2 : m.1 < b + E) : upY E l b pre (some m) = some (b + E, pre ++ l) := if_pos ⟨h, h2⟩
theorem upY_stay {E : Int} {l : List Int} {b : Int} {pre : List Int} {m : Int × List Int} (h2 : b + E ≤ m.1) : upY E l b pre (some m) = some m := if_neg (by omega)
theorem upY_two {E M b : Int} {l k pre : List Int} {z : Option (Int × List Int)} : upY E l b pre (upY M k b pre z) = if M < E then upY E l b pre z else upY M k b pre z := by
  cases z with
  | none =>
    by_cases a : 0 ≤ M
    · rw [upY_none a]
      by_cases e : M < E
      · rw [if_pos e, upY_none (by omega), upY_put (by omega) (by dsimp only; omega)]
      · rw [if_neg e, upY_stay (by dsimp only; omega)]
    · rw [upY_neg (E := M) (by omega)]
      by_cases e : M < E
      · rw [if_pos e]
      · rw [if_neg e, upY_neg (by omega)]
  | some m =>
    by_cases a : 0 ≤ M
    · by_cases c : m.1 < b + M
      · rw [upY_put a c]
        by_cases e : M < E
        · rw [if_pos e, upY_put (by omega) (by dsimp only; omega), upY_put (by omega) (by omega)]
        · rw [if_neg e, upY_stay (by dsimp only; omega)]
      · rw [upY_stay (E := M) (by omega)]
        by_cases e : M < E
        · rw [if_pos e]
        · rw [if_neg e, upY_stay (by omega)]
    · rw [upY_neg (E := M) (by omega)]
      by_cases e : M < E
      · rw [if_pos e]
      · rw [if_neg e, upY_neg (by omega)]
theorem upY_no {E M b : Int} {l k pre pre2 : List Int} {z : Option (Int × List Int)} (h : 0 ≤ M) (h2 : E ≤ M) : upY E l b pre2 (upY M k b pre z) = upY M k b pre z := by
  cases z with
  | none => rw [upY_none h, upY_stay (by dsimp only; omega)]
  | some m =>
    by_cases c : m.1 < b + M
    · rw [upY_put h c, upY_stay (by dsimp only; omega)]
    · rw [upY_stay (E := M) (by omega), upY_stay (by omega)]
theorem upY_shift {E b y p : Int} {l pre : List Int} {z : Option (Int × List Int)} (h : 0 ≤ E) (hy : 0 ≤ y) : upY E l (b + y) (pre ++ [p]) z = upY (y + E) (p :: l) b pre z := by
  have e1 : b + y + E = b + (y + E) := by omega
  have e2 : pre ++ [p] ++ l = pre ++ p :: l := by rw [List.append_assoc]; rfl
  cases z with
  | none => rw [upY_none h, upY_none (by omega), e1, e2]
  | some m =>
    by_cases c : m.1 < b + (y + E)
    · rw [upY_put h (by omega), upY_put (by omega) c, e1, e2]
    · rw [upY_stay (by omega), upY_stay (by omega)]
theorem upY_mp {g : Nat → Int} {h : Nat → List Int} {n : Nat} {b : Int} {pre : List Int} {z : Option (Int × List Int)} : upY (g n) (h n) b pre (upY (yyMP g h n).1 (yyMP g h n).2 b pre z) = upY (yyMP g h (n + 1)).1 (yyMP g h (n + 1)).2 b pre z := by
  rw [upY_two]
  show _ = upY (if (yyMP g h n).1 < g n then (g n, h n) else yyMP g h n).1 (if (yyMP g h n).1 < g n then (g n, h n) else yyMP g h n).2 b pre z
  by_cases c : (yyMP g h n).1 < g n
  · rw [if_pos c, if_pos c]
  · rw [if_neg c, if_neg c]
def rwL (I : Nat → Nat → Int32) (q n : Nat) : List Int := (List.range n).map (fun k => (I q k).toInt)
theorem rwL_succ {I : Nat → Nat → Int32} {q n : Nat} : rwL I q (n + 1) = rwL I q n ++ [(I q n).toInt] := by
  unfold rwL
  rw [List.range_succ, List.map_append]
  rfl
theorem rwL_congr {I J : Nat → Nat → Int32} {q q' n : Nat} (h : ∀ k, k < n → I q k = J q' k) : rwL I q n = rwL J q' n := by
  unfold rwL
  exact List.map_congr_left (fun k hk => by rw [h k (List.mem_range.mp hk)])
theorem rwL_len {I : Nat → Nat → Int32} {q n : Nat} : (rwL I q n).length = n := by
  unfold rwL
  rw [List.length_map, List.length_range]
theorem rwL_get {I : Nat → Nat → Int32} {q n k : Nat} (h : k < n) : (rwL I q n)[k]? = some (I q k).toInt := by
  unfold rwL
  rw [List.getElem?_map, List.getElem?_range h]
  rfl
theorem rwL_eq {I J : Nat → Nat → Int32} {q q' n n' : Nat} (h : rwL I q n = rwL J q' n') : n = n' ∧ ∀ k, k < n → I q k = J q' k := by
  have e : n = n' := by
    have := congrArg List.length h
    rw [rwL_len, rwL_len] at this
    exact this
  subst e
  refine ⟨rfl, fun k hk => ?_⟩
  have g : (rwL I q n)[k]? = (rwL J q' n)[k]? := by rw [h]
  rw [rwL_get hk, rwL_get hk] at g
  exact Int32.toInt_inj.mp (Option.some.inj g)
/-- the choice of a ship as a number: -1 is none -/
def chO (f : Int32) (o : Option Nat) : Prop := (o = none ∧ f.toInt = -1) ∨ ∃ s : Nat, o = some s ∧ f.toInt = (s : Int)
theorem chO_skip {f : Int32} {el : Nat → Bool} {F : Nat → Int} {t : Nat} (h : chO f (yyCh el F t)) (e : ¬ el t = true) : chO f (yyCh el F (t + 1)) := by
  have : yyCh el F (t + 1) = yyCh el F t := by
    show (match yyCh el F t with
      | none => if el t = true then some t else none
      | some b => if el t = true ∧ F t < F b then some t else some b) = _
    cases yyCh el F t with
    | none => exact if_neg e
    | some b => exact if_neg (fun q => e q.1)
  rw [this]
  exact h
theorem chO_new {f g : Int32} {el : Nat → Bool} {F : Nat → Int} {t : Nat} (h : chO f (yyCh el F t)) (e : el t = true) (hf : f.toInt < 0) (hg : g.toInt = (t : Int)) : chO g (yyCh el F (t + 1)) := by
  refine Or.inr ⟨t, ?_, hg⟩
  show (match yyCh el F t with
      | none => if el t = true then some t else none
      | some b => if el t = true ∧ F t < F b then some t else some b) = _
  rcases h with ⟨h, -⟩ | ⟨s, h, hs⟩
  · rw [h]
    exact if_pos e
  · exfalso
    omega
theorem chO_less {f g : Int32} {el : Nat → Bool} {F : Nat → Int} {t : Nat} (h : chO f (yyCh el F t)) (e : el t = true) (hf : 0 ≤ f.toInt) (hl : F t < F f.toInt.toNat) (hg : g.toInt = (t : Int)) : chO g (yyCh el F (t + 1)) := by
  refine Or.inr ⟨t, ?_, hg⟩
  show (match yyCh el F t with
      | none => if el t = true then some t else none
      | some b => if el t = true ∧ F t < F b then some t else some b) = _
  rcases h with ⟨h, hs⟩ | ⟨s, h, hs⟩
  · exfalso
    omega
  · have es : f.toInt.toNat = s := by omega
    rw [es] at hl
    rw [h]
    exact if_pos ⟨e, hl⟩
theorem chO_keep {f : Int32} {el : Nat → Bool} {F : Nat → Int} {t : Nat} (h : chO f (yyCh el F t)) (hf : 0 ≤ f.toInt) (hl : ¬ F t < F f.toInt.toNat) : chO f (yyCh el F (t + 1)) := by
  rcases h with ⟨h, hs⟩ | ⟨s, h, hs⟩
  · exfalso
    omega
  · have es : f.toInt.toNat = s := by omega
    rw [es] at hl
    refine Or.inr ⟨s, ?_, hs⟩
    show (match yyCh el F t with
      | none => if el t = true then some t else none
      | some b => if el t = true ∧ F t < F b then some t else some b) = _
    rw [h]
    exact if_neg (fun q => hl q.2)
theorem chO_lt {f : Int32} {el : Nat → Bool} {F : Nat → Int} {t : Nat} (h : chO f (yyCh el F t)) : f.toInt < (t : Int) ∧ -1 ≤ f.toInt := by
  rcases h with ⟨h, hs⟩ | ⟨s, h, hs⟩
  · omega
  · have := (yyCh_some h).1
    omega
/-- voyages that a ship has time for: three at most, the v-th is home behind 2 v - 1 passages -/
def vMx (d p : Int) : Int := if 3 < (d / p + 1) / 2 then 3 else (d / p + 1) / 2
theorem vMx_iff {d p c : Int} (hp : 0 < p) : c < vMx d p ↔ c < 3 ∧ 2 * p * c + p ≤ d := by
  have e : 2 * p * c + p = (2 * c + 1) * p := by
    rw [Int.add_mul, Int.one_mul, Int.mul_right_comm]
  have h : 2 * c + 1 ≤ d / p ↔ (2 * c + 1) * p ≤ d := Int.le_ediv_iff_mul_le hp
  rw [e, ← h]
  unfold vMx
  split <;> omega
theorem vMx_rng {d p : Int} (hd : 0 ≤ d) (hp : 0 < p) : 0 ≤ vMx d p ∧ vMx d p ≤ 3 := by
  have h : 0 ≤ d / p := Int.ediv_nonneg hd (by omega)
  unfold vMx
  split <;> omega
/-- what is left to choose, sharper: a ship that rests, or has made three voyages, has nothing left -/
def yyNu (x : yySt) : Nat → Int
  | 0 => 0
  | n + 1 => yyNu x n + (bif x.2.2 n then 0 else 3 - x.2.1 n)
theorem yyNu_congr {x y : yySt} : ∀ {n : Nat}, (∀ k, k < n → x.2.1 k = y.2.1 k ∧ x.2.2 k = y.2.2 k) → yyNu x n = yyNu y n
  | 0, _ => rfl
  | n + 1, h => by
    show yyNu x n + (bif x.2.2 n then 0 else 3 - x.2.1 n) = yyNu y n + (bif y.2.2 n then 0 else 3 - y.2.1 n)
    rw [yyNu_congr (n := n) (fun k hk => h k (by omega)), (h n (by omega)).1, (h n (by omega)).2]
theorem yyNu_pos {x : yySt} : ∀ {n : Nat}, (∀ k, k < n → x.2.1 k ≤ 3) → 0 ≤ yyNu x n
  | 0, _ => Int.le_refl _
  | n + 1, h => by
    have ih := yyNu_pos (n := n) (fun k hk => h k (by omega))
    have := h n (by omega)
    show 0 ≤ yyNu x n + (bif x.2.2 n then 0 else 3 - x.2.1 n)
    cases x.2.2 n with
    | true => show 0 ≤ yyNu x n + 0; omega
    | false => show 0 ≤ yyNu x n + (3 - x.2.1 n); omega
theorem yyNu_go {x : yySt} {s p : Nat} {y : Int} (hr : x.2.2 s = false) : ∀ {n : Nat}, s < n → yyNu (yyGo x s p y) n + 1 = yyNu x n
  | 0, h => absurd h (Nat.not_lt_zero _)
  | n + 1, h => by
    show yyNu (yyGo x s p y) n + (bif x.2.2 n then 0 else 3 - (if n = s then x.2.1 n + 1 else x.2.1 n)) + 1 = yyNu x n + (bif x.2.2 n then 0 else 3 - x.2.1 n)
    by_cases e : n = s
    · subst e
      have same : yyNu (yyGo x n p y) n = yyNu x n := yyNu_congr (fun k hk => ⟨by show (if k = n then x.2.1 k + 1 else x.2.1 k) = x.2.1 k; exact if_neg (by omega), rfl⟩)
      rw [same, if_pos rfl, hr]
      show yyNu x n + (3 - (x.2.1 n + 1)) + 1 = yyNu x n + (3 - x.2.1 n)
      omega
    · rw [if_neg e]
      have ih := yyNu_go (p := p) (y := y) hr (n := n) (by omega)
      omega
theorem yyNu_rs {x : yySt} {s : Nat} (hr : x.2.2 s = false) (hc : x.2.1 s < 3) : ∀ {n : Nat}, s < n → yyNu (yyRs x s) n + 1 ≤ yyNu x n
  | 0, h => absurd h (Nat.not_lt_zero _)
  | n + 1, h => by
    show yyNu (yyRs x s) n + (bif (if n = s then true else x.2.2 n) then 0 else 3 - x.2.1 n) + 1 ≤ yyNu x n + (bif x.2.2 n then 0 else 3 - x.2.1 n)
    by_cases e : n = s
    · subst e
      have same : yyNu (yyRs x n) n = yyNu x n := yyNu_congr (fun k hk => ⟨rfl, by show (if k = n then true else x.2.2 k) = x.2.2 k; exact if_neg (by omega)⟩)
      rw [same, if_pos rfl, hr]
      show yyNu x n + 0 + 1 ≤ yyNu x n + (3 - x.2.1 n)
      omega
    · rw [if_neg e]
      have ih := yyNu_rs hr hc (n := n) (by omega)
      omega
theorem yyNu_one {x : yySt} (h : ∀ k, x.2.1 k ≤ 3) {s : Nat} (hr : x.2.2 s = false) (hc : x.2.1 s < 3) : ∀ {n : Nat}, s < n → 1 ≤ yyNu x n
  | 0, h => absurd h (Nat.not_lt_zero _)
  | n + 1, hs => by
    have g := yyNu_rs (x := x) hr hc hs
    have p := yyNu_pos (x := yyRs x s) (n := n + 1) (fun k _ => h k)
    omega
theorem yyNu_le {x : yySt} : ∀ {n : Nat}, (∀ k, k < n → 0 ≤ x.2.1 k ∧ x.2.1 k ≤ 3) → yyNu x n ≤ 3 * n
  | 0, _ => Int.le_refl _
  | n + 1, h => by
    have ih := yyNu_le (n := n) (fun k hk => h k (by omega))
    have := h n (by omega)
    show yyNu x n + (bif x.2.2 n then 0 else 3 - x.2.1 n) ≤ 3 * ((n + 1 : Nat) : Int)
    cases x.2.2 n with
    | true => show yyNu x n + 0 ≤ 3 * ((n + 1 : Nat) : Int); omega
    | false => show yyNu x n + (3 - x.2.1 n) ≤ 3 * ((n + 1 : Nat) : Int); omega

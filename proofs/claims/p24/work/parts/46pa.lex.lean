/-! ===== texts: tokens and their grammar, the pure part (by hand) ===== -/
def tL (x : Int) : Bool := decide (97 ≤ x ∧ x ≤ 122)
def tD (x : Int) : Bool := decide (48 ≤ x ∧ x ≤ 57)
theorem tL_iff {x : Int} : tL x = true ↔ 97 ≤ x ∧ x ≤ 122 := decide_eq_true_iff
theorem tD_iff {x : Int} : tD x = true ↔ 48 ≤ x ∧ x ≤ 57 := decide_eq_true_iff
def tEnd (c : Nat → Bool) (n : Nat) : Nat → Nat → Nat
  | 0, p => p
  | f + 1, p => if p < n ∧ c p = true then tEnd c n f (p + 1) else p
/-- the first place from p on, below n, where c doesn't hold -/
def tE (c : Nat → Bool) (n p : Nat) : Nat := tEnd c n (n - p) p
theorem tE_go {c : Nat → Bool} {n p : Nat} (h : p < n) (hc : c p = true) : tE c n p = tE c n (p + 1) := by
  unfold tE
  have e : n - p = (n - (p + 1)) + 1 := by omega
  rw [e]
  exact if_pos ⟨h, hc⟩
theorem tE_stop {c : Nat → Bool} {n p : Nat} (h : ¬ (p < n ∧ c p = true)) : tE c n p = p := by
  unfold tE
  cases e : n - p with
  | zero => rfl
  | succ f => exact if_neg h
theorem tE_ge {c : Nat → Bool} {n : Nat} : ∀ (z p : Nat), n - p < z → p ≤ tE c n p ∧ (p ≤ n → tE c n p ≤ n)
  | 0, p, h => absurd h (Nat.not_lt_zero _)
  | z + 1, p, h => by
    by_cases q : p < n ∧ c p = true
    · have ih := tE_ge (c := c) (n := n) z (p + 1) (by omega)
      rw [tE_go q.1 q.2]
      exact ⟨by omega, fun _ => ih.2 (by omega)⟩
    · rw [tE_stop q]
      exact ⟨Nat.le_refl _, fun h => h⟩
theorem tE_rng {c : Nat → Bool} {n p : Nat} : p ≤ tE c n p ∧ (p ≤ n → tE c n p ≤ n) := tE_ge (n - p + 1) p (by omega)
theorem tE_end {c : Nat → Bool} {n : Nat} : ∀ (z p : Nat), n - p < z → ¬ (tE c n p < n ∧ c (tE c n p) = true)
  | 0, p, h => absurd h (Nat.not_lt_zero _)
  | z + 1, p, h => by
    by_cases q : p < n ∧ c p = true
    · rw [tE_go q.1 q.2]
      exact tE_end z (p + 1) (by omega)
    · rw [tE_stop q]
      exact q
theorem tE_in {c : Nat → Bool} {n : Nat} : ∀ (z p k : Nat), n - p < z → p ≤ k → k < tE c n p → k < n ∧ c k = true
  | 0, p, _, h, _, _ => absurd h (Nat.not_lt_zero _)
  | z + 1, p, k, h, h1, h2 => by
    by_cases q : p < n ∧ c p = true
    · by_cases e : k = p
      · rw [e]
        exact q
      · rw [tE_go q.1 q.2] at h2
        exact tE_in z (p + 1) k (by omega) (by omega) h2
    · rw [tE_stop q] at h2
      exfalso
      omega
theorem tE_idem {c : Nat → Bool} {n p : Nat} : tE c n (tE c n p) = tE c n p := tE_stop (tE_end (n - p + 1) p (by omega))
theorem tE_same {c : Nat → Bool} {n p u : Nat} (h : tE c n u = tE c n p) (hs : ¬ (u < n ∧ c u = true)) : u = tE c n p := by
  rw [← h, tE_stop hs]
/-- the value of m letters from p on -/
def wV (b : Nat → Int) (p : Nat) : Nat → Int
  | 0 => 0
  | m + 1 => 27 * wV b p m + (b (p + m) - 96)
def wL : List Int := [10167854, 9176, 388609, 326369, 249, 423, 1111, 10631, 194797783, 338420152, 189272800, 34616032979, 800221267, 1949528, 923, 237307, 1423850, 2968]
def wdf : List Int → Int → Int → Int
  | [], _, _ => 301
  | a :: l, k, v => if v = a then k else wdf l (k + 1) v
theorem wdf_rng {v : Int} : ∀ {l : List Int} {k : Int}, wdf l k v = 301 ∨ (k ≤ wdf l k v ∧ wdf l k v < k + l.length)
  | [], k => Or.inl rfl
  | a :: l, k => by
    show (if v = a then k else wdf l (k + 1) v) = 301 ∨ (k ≤ (if v = a then k else wdf l (k + 1) v) ∧ (if v = a then k else wdf l (k + 1) v) < k + ((l.length + 1 : Nat) : Int))
    by_cases e : v = a
    · rw [if_pos e]
      exact Or.inr ⟨Int.le_refl _, by omega⟩
    · rw [if_neg e]
      rcases wdf_rng (v := v) (l := l) (k := k + 1) with h | h
      · exact Or.inl h
      · exact Or.inr ⟨by omega, by omega⟩
theorem wdf_iff {v : Int} : ∀ {l : List Int} {k : Int} {i : Nat}, l.Nodup → k + l.length ≤ 301 → i < l.length → (wdf l k v = k + i ↔ l[i]? = some v)
  | [], _, _, _, _, h => absurd h (Nat.not_lt_zero _)
  | a :: l, k, i, hn, hk, hi => by
    have hk' : k + ((l.length + 1 : Nat) : Int) ≤ 301 := hk
    have hi' : i < l.length + 1 := hi
    have hn' := List.nodup_cons.mp hn
    show (if v = a then k else wdf l (k + 1) v) = k + i ↔ _
    cases i with
    | zero =>
      show _ ↔ some a = some v
      by_cases e : v = a
      · rw [if_pos e, e]
        exact ⟨fun _ => rfl, fun _ => by show k = k + ((0 : Nat) : Int); omega⟩
      · rw [if_neg e]
        refine ⟨fun h => ?_, fun h => absurd (Option.some.inj h).symm e⟩
        exfalso
        have h0 : wdf l (k + 1) v = k := by rw [h]; show k + ((0 : Nat) : Int) = k; omega
        rcases wdf_rng (v := v) (l := l) (k := k + 1) with q | q
        · omega
        · omega
    | succ i =>
      show _ ↔ l[i]? = some v
      by_cases e : v = a
      · rw [if_pos e]
        refine ⟨fun h => ?_, fun h => ?_⟩
        · exfalso
          have : ((i + 1 : Nat) : Int) = 0 := by omega
          omega
        · exfalso
          rw [e] at h
          exact hn'.1 (List.mem_of_getElem? h)
      · rw [if_neg e]
        have ih := wdf_iff (v := v) (l := l) (k := k + 1) (i := i) hn'.2 (by omega) (by omega)
        have e2 : k + ((i + 1 : Nat) : Int) = k + 1 + (i : Int) := by omega
        rw [e2]
        exact ih
def wdI (v : Int) : Int := wdf wL 256 v
theorem wdI_iff {v : Int} {i : Nat} {a : Int} (hi : i < 18) (ha : wL[i]? = some a) : wdI v = 256 + i ↔ v = a := by
  have h := wdf_iff (v := v) (l := wL) (k := 256) (i := i) (by decide) (by decide) hi
  unfold wdI
  rw [h, ha]
  exact ⟨fun q => (Option.some.inj q).symm, fun q => by rw [q]⟩
theorem wdI_rng {v : Int} : wdI v = 301 ∨ (256 ≤ wdI v ∧ wdI v ≤ 273) := by
  rcases wdf_rng (v := v) (l := wL) (k := 256) with h | h
  · exact Or.inl h
  · have e : ((wL.length : Nat) : Int) = 18 := rfl
    unfold wdI
    exact Or.inr ⟨h.1, by omega⟩
def wdK (b : Nat → Int) (p q : Nat) : Int := if q - p ≤ 12 then wdI (wV b p (q - p)) else 301
theorem wdK_rng {b : Nat → Int} {p q : Nat} : wdK b p q = 301 ∨ (256 ≤ wdK b p q ∧ wdK b p q ≤ 273) := by
  unfold wdK
  split
  · exact wdI_rng
  · exact Or.inl rfl
/-- spaces, letters, digits by places -/
def cS (b : Nat → Int) (k : Nat) : Bool := decide (b k = 32)
def cL (b : Nat → Int) (k : Nat) : Bool := tL (b k)
def cD (b : Nat → Int) (k : Nat) : Bool := tD (b k)
/-- where the token that begins at p ends, and its kind -/
def tkE (b : Nat → Int) (n p : Nat) : Nat := if p < n then (if tL (b p) = true then tE (cL b) n p else if tD (b p) = true then tE (cD b) n p else p + 1) else p
def tkK (b : Nat → Int) (n p : Nat) : Int := if p < n then (if tL (b p) = true then wdK b p (tE (cL b) n p) else if tD (b p) = true then (if 4 < tE (cD b) n p - p then 301 else 300) else (if b p < 0 then b p + 256 else b p)) else 302
def tS (b : Nat → Int) (n : Nat) : Nat → Nat
  | 0 => tE (cS b) n 0
  | i + 1 => tE (cS b) n (tkE b n (tS b n i))
def tK (b : Nat → Int) (n i : Nat) : Int := tkK b n (tS b n i)
theorem tkE_rng {b : Nat → Int} {n p : Nat} : (p < n → p < tkE b n p ∧ tkE b n p ≤ n) ∧ (¬ p < n → tkE b n p = p) := by
  constructor
  · intro h
    unfold tkE
    rw [if_pos h]
    by_cases c : tL (b p) = true
    · rw [if_pos c]
      have g := tE_rng (c := cL b) (n := n) (p := p + 1)
      have e := tE_go (c := cL b) h (show cL b p = true from c)
      rw [e]
      exact ⟨by omega, g.2 (by omega)⟩
    · rw [if_neg c]
      by_cases d : tD (b p) = true
      · rw [if_pos d]
        have g := tE_rng (c := cD b) (n := n) (p := p + 1)
        have e := tE_go (c := cD b) h (show cD b p = true from d)
        rw [e]
        exact ⟨by omega, g.2 (by omega)⟩
      · rw [if_neg d]
        exact ⟨by omega, by omega⟩
  · intro h
    unfold tkE
    exact if_neg h
theorem tS_le {b : Nat → Int} {n : Nat} : ∀ {i : Nat}, tS b n i ≤ n
  | 0 => (tE_rng (c := cS b) (n := n) (p := 0)).2 (Nat.zero_le _)
  | i + 1 => by
    have h := tS_le (b := b) (n := n) (i := i)
    have g := tkE_rng (b := b) (n := n) (p := tS b n i)
    refine (tE_rng (c := cS b) (n := n) (p := tkE b n (tS b n i))).2 ?_
    by_cases c : tS b n i < n
    · exact (g.1 c).2
    · rw [g.2 c]
      exact h
theorem tS_idx {b : Nat → Int} {n : Nat} : ∀ {i : Nat}, i ≤ tS b n i ∨ tS b n i = n
  | 0 => Or.inl (Nat.zero_le _)
  | i + 1 => by
    have h := tS_idx (b := b) (n := n) (i := i)
    have l := tS_le (b := b) (n := n) (i := i)
    have l2 := tS_le (b := b) (n := n) (i := i + 1)
    have g := tkE_rng (b := b) (n := n) (p := tS b n i)
    have r := (tE_rng (c := cS b) (n := n) (p := tkE b n (tS b n i))).1
    have e : tS b n (i + 1) = tE (cS b) n (tkE b n (tS b n i)) := rfl
    by_cases c : tS b n i < n
    · have g1 := g.1 c
      left
      omega
    · have g2 := g.2 c
      right
      omega
theorem tK_end {b : Nat → Int} {n i : Nat} (hb : ∀ k, -128 ≤ b k ∧ b k ≤ 127) : tK b n i = 302 ↔ tS b n i = n := by
  have l := tS_le (b := b) (n := n) (i := i)
  have hp := hb (tS b n i)
  unfold tK tkK
  by_cases c : tS b n i < n
  · rw [if_pos c]
    refine ⟨fun h => ?_, fun h => by omega⟩
    exfalso
    split at h
    · rcases wdK_rng (b := b) (p := tS b n i) (q := tE (cL b) n (tS b n i)) with q | q <;> omega
    · split at h
      · split at h <;> omega
      · split at h <;> omega
  · rw [if_neg c]
    exact ⟨fun _ => by omega, fun _ => rfl⟩
/-- how many tokens there are -/
theorem tN_ex {b : Nat → Int} {n : Nat} (hb : ∀ k, -128 ≤ b k ∧ b k ≤ 127) : tK b n n = 302 := by
  refine (tK_end hb).mpr ?_
  have l := tS_le (b := b) (n := n) (i := n)
  rcases tS_idx (b := b) (n := n) (i := n) with h | h
  · omega
  · exact h
/-! the grammar: 0 one, 1 its signs, 2 product, 3 its signs, 4 sum, 5 test, 6 and, 7 all, 8 or, 9 any -/
def gB (r : Bool × Nat) (k : Nat → Bool × Nat) : Bool × Nat := if r.1 = true then k r.2 else r
theorem gB_t {r : Bool × Nat} {k : Nat → Bool × Nat} (h : r.1 = true) : gB r k = k r.2 := if_pos h
theorem gB_f {r : Bool × Nat} {k : Nat → Bool × Nat} (h : r.1 = false) : gB r k = r := if_neg (by rw [h]; exact Bool.false_ne_true)
def g0 (K : Nat → Int) (S : Nat → Nat → Bool × Nat) (o i : Nat) : Bool × Nat := if K i = 300 ∨ (264 ≤ K i ∧ K i ≤ 273) then (true, i + 1) else if K i = 40 then (if 8 ≤ o then (false, i) else gB (S (o + 1) (i + 1)) (fun j => if K j = 41 then (true, j + 1) else (false, j))) else (false, i)
def gLp (c : Nat → Bool) (A Z : Nat → Bool × Nat) (i : Nat) : Bool × Nat := if c i = true then gB (A (i + 1)) Z else (true, i)
def g5 (K : Nat → Int) (T A : Nat → Nat → Bool × Nat) (S : Nat → Bool × Nat) (o i : Nat) : Bool × Nat := if K i = 263 then (if 8 ≤ o then (false, i) else T (o + 1) (i + 1)) else if K i = 91 then (if 8 ≤ o then (false, i) else gB (A (o + 1) (i + 1)) (fun j => if K j = 93 then (true, j + 1) else (false, j))) else gB (S i) (fun j => if K j = 60 ∨ K j = 61 ∨ K j = 62 then S (j + 1) else (false, j))
def sgP (K : Nat → Int) (i : Nat) : Bool := decide (K i = 42 ∨ K i = 47)
def sgS (K : Nat → Int) (i : Nat) : Bool := decide (K i = 43 ∨ K i = 45)
def sgA (K : Nat → Int) (i : Nat) : Bool := decide (K i = 262)
def sgO (K : Nat → Int) (i : Nat) : Bool := decide (K i = 261)
def gPx (K : Nat → Int) : Nat → Nat → Nat → Nat → Bool × Nat
  | 0, _, _, i => (false, i)
  | f + 1, m, o, i => if m = 0 then g0 K (gPx K f 4) o i
    else if m = 1 then gLp (sgP K) (gPx K f 0 o) (gPx K f 1 o) i
    else if m = 2 then gB (gPx K f 0 o i) (gPx K f 1 o)
    else if m = 3 then gLp (sgS K) (gPx K f 2 o) (gPx K f 3 o) i
    else if m = 4 then gB (gPx K f 2 o i) (gPx K f 3 o)
    else if m = 5 then g5 K (gPx K f 5) (gPx K f 9) (gPx K f 4 o) o i
    else if m = 6 then gLp (sgA K) (gPx K f 5 o) (gPx K f 6 o) i
    else if m = 7 then gB (gPx K f 5 o i) (gPx K f 6 o)
    else if m = 8 then gLp (sgO K) (gPx K f 7 o) (gPx K f 8 o) i
    else gB (gPx K f 7 o i) (gPx K f 8 o)
theorem gPx_0 {K : Nat → Int} {f o i : Nat} : gPx K (f + 1) 0 o i = g0 K (gPx K f 4) o i := rfl
theorem gPx_1 {K : Nat → Int} {f o i : Nat} : gPx K (f + 1) 1 o i = gLp (sgP K) (gPx K f 0 o) (gPx K f 1 o) i := rfl
theorem gPx_2 {K : Nat → Int} {f o i : Nat} : gPx K (f + 1) 2 o i = gB (gPx K f 0 o i) (gPx K f 1 o) := rfl
theorem gPx_3 {K : Nat → Int} {f o i : Nat} : gPx K (f + 1) 3 o i = gLp (sgS K) (gPx K f 2 o) (gPx K f 3 o) i := rfl
theorem gPx_4 {K : Nat → Int} {f o i : Nat} : gPx K (f + 1) 4 o i = gB (gPx K f 2 o i) (gPx K f 3 o) := rfl
theorem gPx_5 {K : Nat → Int} {f o i : Nat} : gPx K (f + 1) 5 o i = g5 K (gPx K f 5) (gPx K f 9) (gPx K f 4 o) o i := rfl
theorem gPx_6 {K : Nat → Int} {f o i : Nat} : gPx K (f + 1) 6 o i = gLp (sgA K) (gPx K f 5 o) (gPx K f 6 o) i := rfl
theorem gPx_7 {K : Nat → Int} {f o i : Nat} : gPx K (f + 1) 7 o i = gB (gPx K f 5 o i) (gPx K f 6 o) := rfl
theorem gPx_8 {K : Nat → Int} {f o i : Nat} : gPx K (f + 1) 8 o i = gLp (sgO K) (gPx K f 7 o) (gPx K f 8 o) i := rfl
theorem gPx_9 {K : Nat → Int} {f o i : Nat} : gPx K (f + 1) 9 o i = gB (gPx K f 7 o i) (gPx K f 8 o) := rfl
/-- a part of a text: where it ends, or where it is wrong; w: at least one token is taken -/
def gXK (N : Nat) (w : Bool) (i : Nat) (r : Bool × Nat) : Prop := i ≤ r.2 ∧ r.2 ≤ N ∧ (r.1 = true → w = true → i < r.2)
theorem gXK_B {N i : Nat} {w w1 w2 : Bool} {r : Bool × Nat} {k : Nat → Bool × Nat} (h : gXK N w1 i r) (hk : ∀ j, i ≤ j → j ≤ N → (w1 = true → i < j) → gXK N w2 j (k j)) (hw : w = true → w1 = true ∨ w2 = true) : gXK N w i (gB r k) := by
  cases e : r.1 with
  | true =>
    rw [gB_t e]
    have q := hk r.2 h.1 h.2.1 (h.2.2 e)
    refine ⟨by have := h.1; have := q.1; omega, q.2.1, fun a b => ?_⟩
    have h1 := h.1
    have q1 := q.1
    rcases hw b with c | c
    · have := h.2.2 e c
      omega
    · have := q.2.2 a c
      omega
  | false =>
    rw [gB_f e]
    exact ⟨h.1, h.2.1, fun a _ => by rw [e] at a; cases a⟩
theorem gXK_no {N i : Nat} {w : Bool} (h : i ≤ N) : gXK N w i (false, i) := ⟨Nat.le_refl _, h, fun a _ => by cases a⟩
theorem gXK_yes {N i : Nat} {w : Bool} (h : i < N) : gXK N w i (true, i + 1) := ⟨Nat.le_succ _, h, fun _ _ => Nat.lt_succ_self _⟩
theorem gXK_stay {N i : Nat} (h : i ≤ N) : gXK N false i (true, i) := ⟨Nat.le_refl _, h, fun _ a => by cases a⟩
theorem gXK_wk {N i : Nat} {w : Bool} {r : Bool × Nat} (h : gXK N w i r) : gXK N false i r := ⟨h.1, h.2.1, fun _ a => by cases a⟩
theorem gXK_in {N i j : Nat} {w w2 : Bool} {r : Bool × Nat} (h : gXK N w2 j r) (hj : i < j) : gXK N w i r := ⟨by have := h.1; omega, h.2.1, fun a _ => by have := h.1; omega⟩
theorem gXK_lp {N i : Nat} {c : Nat → Bool} {A Z : Nat → Bool × Nat} (hi : i ≤ N) (hc : c i = true → i < N) (hA : ∀ j, j ≤ N → gXK N true j (A j)) (hZ : ∀ j, j ≤ N → gXK N false j (Z j)) : gXK N false i (gLp c A Z i) := by
  unfold gLp
  by_cases e : c i = true
  · rw [if_pos e]
    have := hc e
    exact gXK_in (gXK_B (w := false) (hA (i + 1) (by omega)) (fun j _ b _ => hZ j b) (fun h => by cases h)) (Nat.lt_succ_self _)
  · rw [if_neg e]
    exact gXK_stay hi
theorem gPx_ok {K : Nat → Int} {N : Nat} (hN : K N = 302) : ∀ (f o i : Nat), i ≤ N → (∀ m, m = 0 ∨ m = 2 ∨ m = 4 ∨ m = 5 ∨ m = 7 ∨ m = 9 → gXK N true i (gPx K f m o i)) ∧ (∀ m, m = 1 ∨ m = 3 ∨ m = 6 ∨ m = 8 → gXK N false i (gPx K f m o i))
  | 0, o, i, hi => ⟨fun m _ => gXK_no hi, fun m _ => gXK_wk (w := true) (gXK_no hi)⟩
  | f + 1, o, i, hi => by
    have ih := gPx_ok hN f
    have a0 : ∀ o j, j ≤ N → gXK N true j (gPx K f 0 o j) := fun o j h => (ih o j h).1 0 (by omega)
    have a1 : ∀ o j, j ≤ N → gXK N false j (gPx K f 1 o j) := fun o j h => (ih o j h).2 1 (by omega)
    have a2 : ∀ o j, j ≤ N → gXK N true j (gPx K f 2 o j) := fun o j h => (ih o j h).1 2 (by omega)
    have a3 : ∀ o j, j ≤ N → gXK N false j (gPx K f 3 o j) := fun o j h => (ih o j h).2 3 (by omega)
    have a4 : ∀ o j, j ≤ N → gXK N true j (gPx K f 4 o j) := fun o j h => (ih o j h).1 4 (by omega)
    have a5 : ∀ o j, j ≤ N → gXK N true j (gPx K f 5 o j) := fun o j h => (ih o j h).1 5 (by omega)
    have a6 : ∀ o j, j ≤ N → gXK N false j (gPx K f 6 o j) := fun o j h => (ih o j h).2 6 (by omega)
    have a7 : ∀ o j, j ≤ N → gXK N true j (gPx K f 7 o j) := fun o j h => (ih o j h).1 7 (by omega)
    have a8 : ∀ o j, j ≤ N → gXK N false j (gPx K f 8 o j) := fun o j h => (ih o j h).2 8 (by omega)
    have a9 : ∀ o j, j ≤ N → gXK N true j (gPx K f 9 o j) := fun o j h => (ih o j h).1 9 (by omega)
    have lt : ∀ j, j ≤ N → ¬ K j = 302 → j < N := by
      intro j h q
      by_cases e : j = N
      · rw [e] at q
        exact absurd hN q
      · omega
    have b0 : gXK N true i (g0 K (gPx K f 4) o i) := by
      unfold g0
      by_cases c : K i = 300 ∨ (264 ≤ K i ∧ K i ≤ 273)
      · rw [if_pos c]
        exact gXK_yes (lt i hi (by omega))
      · rw [if_neg c]
        by_cases d : K i = 40
        · rw [if_pos d]
          have l := lt i hi (by omega)
          by_cases e : 8 ≤ o
          · rw [if_pos e]
            exact gXK_no hi
          · rw [if_neg e]
            refine gXK_in (gXK_B (w := true) (w2 := true) (a4 (o + 1) (i + 1) (by omega)) (fun j _ h _ => ?_) (fun _ => Or.inl rfl)) (Nat.lt_succ_self _)
            by_cases z : K j = 41
            · rw [if_pos z]
              exact gXK_yes (lt j h (by omega))
            · rw [if_neg z]
              exact gXK_no h
        · rw [if_neg d]
          exact gXK_no hi
    have b5 : gXK N true i (g5 K (gPx K f 5) (gPx K f 9) (gPx K f 4 o) o i) := by
      unfold g5
      by_cases c : K i = 263
      · rw [if_pos c]
        have l := lt i hi (by omega)
        by_cases e : 8 ≤ o
        · rw [if_pos e]
          exact gXK_no hi
        · rw [if_neg e]
          exact gXK_in (a5 (o + 1) (i + 1) (by omega)) (Nat.lt_succ_self _)
      · rw [if_neg c]
        by_cases d : K i = 91
        · rw [if_pos d]
          have l := lt i hi (by omega)
          by_cases e : 8 ≤ o
          · rw [if_pos e]
            exact gXK_no hi
          · rw [if_neg e]
            refine gXK_in (gXK_B (w := true) (w2 := true) (a9 (o + 1) (i + 1) (by omega)) (fun j _ h _ => ?_) (fun _ => Or.inl rfl)) (Nat.lt_succ_self _)
            by_cases z : K j = 93
            · rw [if_pos z]
              exact gXK_yes (lt j h (by omega))
            · rw [if_neg z]
              exact gXK_no h
        · rw [if_neg d]
          refine gXK_B (w1 := true) (w2 := false) (a4 o i hi) (fun j _ h _ => ?_) (fun _ => Or.inl rfl)
          by_cases z : K j = 60 ∨ K j = 61 ∨ K j = 62
          · rw [if_pos z]
            exact gXK_in (a4 o (j + 1) (by have := lt j h (by omega); omega)) (Nat.lt_succ_self _)
          · rw [if_neg z]
            exact gXK_wk (w := true) (gXK_no h)
    refine ⟨fun m hm => ?_, fun m hm => ?_⟩
    · rcases hm with rfl | rfl | rfl | rfl | rfl | rfl
      · exact b0
      · exact gXK_B (a0 o i hi) (fun j _ h _ => a1 o j h) (fun _ => Or.inl rfl)
      · exact gXK_B (a2 o i hi) (fun j _ h _ => a3 o j h) (fun _ => Or.inl rfl)
      · exact b5
      · exact gXK_B (a5 o i hi) (fun j _ h _ => a6 o j h) (fun _ => Or.inl rfl)
      · exact gXK_B (a7 o i hi) (fun j _ h _ => a8 o j h) (fun _ => Or.inl rfl)
    · rcases hm with rfl | rfl | rfl | rfl
      · exact gXK_lp hi (fun c => lt i hi (by have := of_decide_eq_true c; omega)) (a0 o) (a1 o)
      · exact gXK_lp hi (fun c => lt i hi (by have := of_decide_eq_true c; omega)) (a2 o) (a3 o)
      · exact gXK_lp hi (fun c => lt i hi (by have := of_decide_eq_true c; omega)) (a5 o) (a6 o)
      · exact gXK_lp hi (fun c => lt i hi (by have := of_decide_eq_true c; omega)) (a7 o) (a8 o)
/-- a line -/
def gLn (K : Nat → Int) (F i : Nat) : Bool × Nat := if K i < 256 ∨ 259 < K i then (false, i) else gB (if K i = 258 then gPx K F 9 0 (i + 1) else if K i = 259 then (if K (i + 1) = 300 then (true, i + 1 + 1) else (false, i + 1)) else gPx K F 4 0 (i + 1)) (fun j => if K j = 260 ∧ (K i = 256 ∨ K i = 259) then gPx K F 9 0 (j + 1) else (true, j))
/-- lines to the end of the text -/
def gLs (K : Nat → Int) (F : Nat) : Nat → Nat → Bool × Nat
  | 0, i => (false, i)
  | f + 1, i => gB (gLn K F i) (fun j => if K j = 59 then gLs K F f (j + 1) else if K j = 302 then (true, j) else (false, j))
theorem gLn_ok {K : Nat → Int} {N F i : Nat} (hN : K N = 302) (hi : i ≤ N) : gXK N true i (gLn K F i) := by
  have lt : ∀ j, j ≤ N → ¬ K j = 302 → j < N := by
    intro j h q
    by_cases e : j = N
    · rw [e] at q
      exact absurd hN q
    · omega
  unfold gLn
  by_cases c : K i < 256 ∨ 259 < K i
  · rw [if_pos c]
    exact gXK_no hi
  · rw [if_neg c]
    have l := lt i hi (by omega)
    refine gXK_B (w1 := true) (w2 := false) ?_ (fun j _ h _ => ?_) (fun _ => Or.inl rfl)
    · by_cases d : K i = 258
      · rw [if_pos d]
        exact gXK_in ((gPx_ok hN F 0 (i + 1) l).1 9 (by omega)) (Nat.lt_succ_self _)
      · rw [if_neg d]
        by_cases e : K i = 259
        · rw [if_pos e]
          by_cases z : K (i + 1) = 300
          · rw [if_pos z]
            exact gXK_in (gXK_yes (w := true) (lt (i + 1) l (by omega))) (Nat.lt_succ_self _)
          · rw [if_neg z]
            exact gXK_in (gXK_no (w := true) l) (Nat.lt_succ_self _)
        · rw [if_neg e]
          exact gXK_in ((gPx_ok hN F 0 (i + 1) l).1 4 (by omega)) (Nat.lt_succ_self _)
    · by_cases d : K j = 260 ∧ (K i = 256 ∨ K i = 259)
      · rw [if_pos d]
        exact gXK_in ((gPx_ok hN F 0 (j + 1) (lt j h (by omega))).1 9 (by omega)) (Nat.lt_succ_self _)
      · rw [if_neg d]
        exact gXK_stay h
theorem gLs_ok {K : Nat → Int} {N F : Nat} (hN : K N = 302) : ∀ (f i : Nat), i ≤ N → gXK N true i (gLs K F f i)
  | 0, i, hi => gXK_no hi
  | f + 1, i, hi => by
    have lt : ∀ j, j ≤ N → ¬ K j = 302 → j < N := by
      intro j h q
      by_cases e : j = N
      · rw [e] at q
        exact absurd hN q
      · omega
    unfold gLs
    refine gXK_B (w1 := true) (w2 := false) (gLn_ok hN hi) (fun j _ h _ => ?_) (fun _ => Or.inl rfl)
    by_cases d : K j = 59
    · rw [if_pos d]
      exact gXK_in (gLs_ok hN f (j + 1) (lt j h (by omega))) (Nat.lt_succ_self _)
    · rw [if_neg d]
      by_cases e : K j = 302
      · rw [if_pos e]
        exact gXK_stay h
      · rw [if_neg e]
        exact gXK_wk (w := true) (gXK_no h)
/-- where a text is wrong, or -1 -/
def gFl (b : Nat → Int) (n : Nat) : Int := if (gLs (tK b n) 3000 300 0).1 = true then -1 else (tS b n (gLs (tK b n) 3000 300 0).2 : Int)

/-! ===== shut: the least bread over all orders (by hand) ===== -/
def bt (s i : Nat) : Nat := s / 2 ^ i % 2
set_option maxRecDepth 100000 in
theorem bt_put8 : ∀ s : Fin 256, ∀ i j : Fin 8, bt s.val i.val = 0 → bt (s.val + 2 ^ i.val) j.val = (if j.val = i.val then 1 else bt s.val j.val) := by decide +kernel
set_option maxRecDepth 100000 in
theorem bt_fit8 : ∀ n : Fin 9, ∀ s : Fin 256, ∀ i : Fin 8, i.val < n.val → s.val < 2 ^ n.val → bt s.val i.val = 0 → s.val + 2 ^ i.val < 2 ^ n.val := by decide +kernel
theorem bt_put {s i j : Nat} (hs : s < 256) (hi : i < 8) (hj : j < 8) (h : bt s i = 0) : bt (s + 2 ^ i) j = (if j = i then 1 else bt s j) := bt_put8 ⟨s, hs⟩ ⟨i, hi⟩ ⟨j, hj⟩ h
theorem bt_fit {n s i : Nat} (hn : n ≤ 8) (hi : i < n) (hs : s < 2 ^ n) (h : bt s i = 0) : s + 2 ^ i < 2 ^ n := by
  have h8 : 2 ^ n ≤ 2 ^ 8 := Nat.pow_le_pow_right (by decide) hn
  exact bt_fit8 ⟨n, by omega⟩ ⟨s, by omega⟩ ⟨i, by omega⟩ hi hs h
theorem bt_le {s i : Nat} : bt s i = 0 ∨ bt s i = 1 := by
  exact Nat.mod_two_eq_zero_or_one _
def tmS (D : Nat → Int) (s : Nat) : Nat → Int
  | 0 => 0
  | n + 1 => tmS D s n + (bt s n : Int) * D n
theorem tm_out {D : Nat → Int} {s i : Nat} (hs : s < 256) (hi : i < 8) (h : bt s i = 0) : ∀ {n : Nat}, n ≤ i → tmS D (s + 2 ^ i) n = tmS D s n
  | 0, _ => rfl
  | n + 1, hn => by
    show tmS D (s + 2 ^ i) n + (bt (s + 2 ^ i) n : Int) * D n = tmS D s n + (bt s n : Int) * D n
    rw [tm_out hs hi h (n := n) (by omega), bt_put hs hi (by omega) h, if_neg (by omega)]
theorem tm_put {D : Nat → Int} {s i : Nat} (hs : s < 256) (hi : i < 8) (h : bt s i = 0) : ∀ {n : Nat}, i < n → n ≤ 8 → tmS D (s + 2 ^ i) n = tmS D s n + D i
  | 0, hn, _ => by omega
  | n + 1, hn, h8 => by
    show tmS D (s + 2 ^ i) n + (bt (s + 2 ^ i) n : Int) * D n = tmS D s n + (bt s n : Int) * D n + D i
    rw [bt_put hs hi (by omega) h]
    by_cases e : n = i
    · subst e
      rw [tm_out hs hi h (Nat.le_refl _), if_pos rfl, h]
      show tmS D s n + 1 * D n = tmS D s n + 0 * D n + D n
      rw [Int.one_mul, Int.zero_mul]
      omega
    · rw [tm_put hs hi h (n := n) (by omega) (by omega), if_neg e]
      omega
theorem tm_rng {D : Nat → Int} {s : Nat} {c : Int} (hD : ∀ i, 0 ≤ D i ∧ D i ≤ c) : ∀ {n : Nat}, 0 ≤ tmS D s n ∧ tmS D s n ≤ c * n
  | 0 => ⟨Int.le_refl _, by show (0 : Int) ≤ c * ((0 : Nat) : Int); rw [Int.natCast_zero, Int.mul_zero]; exact Int.le_refl _⟩
  | n + 1 => by
    have ih := tm_rng (s := s) hD (n := n)
    have d := hD n
    have e : c * ((n + 1 : Nat) : Int) = c * n + c := by rw [Int.natCast_add, Int.mul_add, Int.natCast_one, Int.mul_one]
    show 0 ≤ tmS D s n + (bt s n : Int) * D n ∧ tmS D s n + (bt s n : Int) * D n ≤ c * ((n + 1 : Nat) : Int)
    rw [e]
    rcases bt_le (s := s) (i := n) with b | b
    · rw [b]
      show 0 ≤ tmS D s n + 0 * D n ∧ tmS D s n + 0 * D n ≤ c * n + c
      rw [Int.zero_mul]
      omega
    · rw [b]
      show 0 ≤ tmS D s n + 1 * D n ∧ tmS D s n + 1 * D n ≤ c * n + c
      rw [Int.one_mul]
      omega
theorem tm_congr {D D' : Nat → Int} {s : Nat} : ∀ {n : Nat}, (∀ i, i < n → D i = D' i) → tmS D s n = tmS D' s n
  | 0, _ => rfl
  | n + 1, h => by
    show tmS D s n + (bt s n : Int) * D n = tmS D' s n + (bt s n : Int) * D' n
    rw [tm_congr (n := n) (fun i hi => h i (by omega)), h n (by omega)]
theorem tm_zero {D : Nat → Int} : ∀ {n : Nat}, tmS D 0 n = 0
  | 0 => rfl
  | n + 1 => by
    show tmS D 0 n + (bt 0 n : Int) * D n = 0
    have b : bt 0 n = 0 := by unfold bt; rw [Nat.zero_div]
    rw [tm_zero (n := n), b]
    show (0 : Int) + 0 * D n = 0
    rw [Int.zero_mul]
    rfl
set_option maxRecDepth 100000 in
theorem cd_full8 : ∀ n : Fin 9, ∀ s : Fin 256, s.val < 2 ^ n.val → (tmS (fun _ => 1) s.val n.val = (n.val : Int) ↔ s.val + 1 = 2 ^ n.val) := by decide +kernel
theorem cd_full {n s : Nat} (hn : n ≤ 8) (hs : s < 2 ^ n) : tmS (fun _ => 1) s n = (n : Int) ↔ s + 1 = 2 ^ n := by
  have h8 : 2 ^ n ≤ 2 ^ 8 := Nat.pow_le_pow_right (by decide) hn
  exact cd_full8 ⟨n, by omega⟩ ⟨s, by omega⟩ hs
def lmn (f : Nat → Int) : Nat → Int
  | 0 => 100000000
  | k + 1 => if f k < lmn f k then f k else lmn f k
theorem lmn_le {f : Nat → Int} : ∀ {n : Nat}, lmn f n ≤ 100000000
  | 0 => Int.le_refl _
  | n + 1 => by
    have ih := lmn_le (f := f) (n := n)
    show (if f n < lmn f n then f n else lmn f n) ≤ 100000000
    split <;> omega
theorem lmn_congr {f g : Nat → Int} : ∀ {n : Nat}, (∀ k, k < n → f k = g k) → lmn f n = lmn g n
  | 0, _ => rfl
  | n + 1, h => by
    show (if f n < lmn f n then f n else lmn f n) = (if g n < lmn g n then g n else lmn g n)
    rw [lmn_congr (n := n) (fun k hk => h k (by omega)), h n (by omega)]
theorem lmn_in {f : Nat → Int} : ∀ {n : Nat}, lmn f n = 100000000 ∨ ∃ k, k < n ∧ lmn f n = f k
  | 0 => Or.inl rfl
  | n + 1 => by
    show (if f n < lmn f n then f n else lmn f n) = 100000000 ∨ ∃ k, k < n + 1 ∧ (if f n < lmn f n then f n else lmn f n) = f k
    by_cases c : f n < lmn f n
    · rw [if_pos c]
      exact Or.inr ⟨n, by omega, rfl⟩
    · rw [if_neg c]
      rcases lmn_in (f := f) (n := n) with h | ⟨k, hk, h⟩
      · exact Or.inl h
      · exact Or.inr ⟨k, by omega, h⟩
/-- the bread of all that is not shut yet, by the bits of what is shut -/
def brF (n : Nat) (D B : Nat → Int) (ok : Nat → Nat → Bool) (E : Nat → Int) (s i : Nat) : Int := if bt s i = 0 ∧ ok s i = true then B i * (tmS D s n + D i) + E (s + 2 ^ i) else 100000000
def Ev (n : Nat) (D B : Nat → Int) (ok : Nat → Nat → Bool) : Nat → Nat → Int
  | 0, _ => 0
  | f + 1, s => if s + 1 = 2 ^ n then 0 else lmn (brF n D B ok (Ev n D B ok f) s) n
theorem brF_congr {n : Nat} {D B : Nat → Int} {ok : Nat → Nat → Bool} {E E' : Nat → Int} {s i : Nat} (h : bt s i = 0 → E (s + 2 ^ i) = E' (s + 2 ^ i)) : brF n D B ok E s i = brF n D B ok E' s i := by
  unfold brF
  split
  · next q => rw [h q.1]
  · rfl
theorem pow_pos2 {i : Nat} : 1 ≤ 2 ^ i := Nat.one_le_two_pow
theorem Ev_fuel {n : Nat} {D B : Nat → Int} {ok : Nat → Nat → Bool} (hn : n ≤ 8) : ∀ (f f' s : Nat), s < 2 ^ n → 2 ^ n ≤ s + 1 + f → 2 ^ n ≤ s + 1 + f' → Ev n D B ok f s = Ev n D B ok f' s
  | 0, 0, _, _, _, _ => rfl
  | 0, f' + 1, s, h1, h2, _ => by
    show 0 = (if s + 1 = 2 ^ n then 0 else lmn (brF n D B ok (Ev n D B ok f') s) n)
    rw [if_pos (by omega)]
  | f + 1, 0, s, h1, _, h3 => by
    show (if s + 1 = 2 ^ n then 0 else lmn (brF n D B ok (Ev n D B ok f) s) n) = 0
    rw [if_pos (by omega)]
  | f + 1, f' + 1, s, h1, h2, h3 => by
    show (if s + 1 = 2 ^ n then 0 else lmn (brF n D B ok (Ev n D B ok f) s) n) = (if s + 1 = 2 ^ n then 0 else lmn (brF n D B ok (Ev n D B ok f') s) n)
    by_cases c : s + 1 = 2 ^ n
    · rw [if_pos c, if_pos c]
    · rw [if_neg c, if_neg c]
      refine lmn_congr (fun k hk => brF_congr (fun hb => ?_))
      have a := bt_fit hn hk h1 hb
      have b := @pow_pos2 k
      exact Ev_fuel hn f f' (s + 2 ^ k) a (by omega) (by omega)
/-- the least bread from s on; a hundred millions: none -/
def EE (n : Nat) (D B : Nat → Int) (ok : Nat → Nat → Bool) (s : Nat) : Int := Ev n D B ok 256 s
theorem EE_full {n : Nat} {D B : Nat → Int} {ok : Nat → Nat → Bool} {s : Nat} (h : s + 1 = 2 ^ n) : EE n D B ok s = 0 := by
  show (if s + 1 = 2 ^ n then 0 else lmn (brF n D B ok (Ev n D B ok 255) s) n) = 0
  rw [if_pos h]
theorem EE_step {n : Nat} {D B : Nat → Int} {ok : Nat → Nat → Bool} {s : Nat} (hn : n ≤ 8) (h : s + 1 < 2 ^ n) : EE n D B ok s = lmn (brF n D B ok (EE n D B ok) s) n := by
  have h8 : 2 ^ n ≤ 2 ^ 8 := Nat.pow_le_pow_right (by decide) hn
  show (if s + 1 = 2 ^ n then 0 else lmn (brF n D B ok (Ev n D B ok 255) s) n) = lmn (brF n D B ok (EE n D B ok) s) n
  rw [if_neg (by omega)]
  refine lmn_congr (fun k hk => brF_congr (fun hb => ?_))
  have a := bt_fit hn hk (by omega) hb
  have b := @pow_pos2 k
  exact Ev_fuel hn 255 256 (s + 2 ^ k) a (by omega) (by omega)
theorem brc_rng {n : Nat} {D B : Nat → Int} {s i : Nat} (hn : n ≤ 8) (hD : ∀ i, 0 ≤ D i ∧ D i ≤ 20) (hB : ∀ i, 0 ≤ B i ∧ B i ≤ 999) : 0 ≤ B i * (tmS D s n + D i) ∧ B i * (tmS D s n + D i) ≤ 179820 := by
  have t := tm_rng (s := s) hD (n := n)
  have d := hD i
  have b := hB i
  have t2 : 0 ≤ tmS D s n + D i ∧ tmS D s n + D i ≤ 180 := by omega
  refine ⟨Int.mul_nonneg b.1 t2.1, ?_⟩
  have m1 : B i * (tmS D s n + D i) ≤ 999 * (tmS D s n + D i) := Int.mul_le_mul_of_nonneg_right b.2 t2.1
  omega
/-- what is bounded is far below none -/
theorem EE_rng {n : Nat} {D B : Nat → Int} {ok : Nat → Nat → Bool} (hn : n ≤ 8) (hD : ∀ i, 0 ≤ D i ∧ D i ≤ 20) (hB : ∀ i, 0 ≤ B i ∧ B i ≤ 999) : ∀ (z s : Nat), s < 2 ^ n → 2 ^ n ≤ s + 1 + z → 0 ≤ EE n D B ok s ∧ (EE n D B ok s = 100000000 ∨ EE n D B ok s ≤ 179820 * z) := by
  intro z
  induction z with
  | zero =>
    intro s h1 h2
    have c : s + 1 = 2 ^ n := by omega
    rw [EE_full c]
    omega
  | succ z ih =>
    intro s h1 h2
    by_cases c : s + 1 = 2 ^ n
    · rw [EE_full c]
      omega
    · have h3 : s + 1 < 2 ^ n := by omega
      rw [EE_step hn h3]
      rcases lmn_in (f := brF n D B ok (EE n D B ok) s) (n := n) with h | ⟨k, hk, h⟩
      · rw [h]
        omega
      · rw [h]
        unfold brF
        by_cases q : bt s k = 0 ∧ ok s k = true
        · rw [if_pos q]
          have a := bt_fit hn hk h1 q.1
          have b := @pow_pos2 k
          have hi := ih (s + 2 ^ k) a (by omega)
          have cc := brc_rng (s := s) (i := k) hn hD hB
          have hl := lmn_le (f := brF n D B ok (EE n D B ok) s) (n := n)
          rw [h] at hl
          unfold brF at hl
          rw [if_pos q] at hl
          omega
        · rw [if_neg q]
          omega
/-- what one way more makes of what was found: (has one, its bread) -/
def updS (E b : Int) (p : Int × Int) : Int × Int := if E < 100000000 ∧ (p.1 = 0 ∨ b + E < p.2) then (1, b + E) else p
theorem upd_none {b : Int} {p : Int × Int} : updS 100000000 b p = p := if_neg (by omega)
theorem upd_step {E c M b : Int} {p : Int × Int} (hM : M ≤ 100000000) (h1 : E < 100000000 → c + E < 100000000) (h2 : ¬ E < 100000000 → 100000000 ≤ c + E) : updS E (b + c) (updS M b p) = updS (if c + E < M then c + E else M) b p := by
  obtain ⟨u, v⟩ := p
  unfold updS
  dsimp only
  by_cases a : M < 100000000 ∧ (u = 0 ∨ b + M < v)
  · rw [if_pos a]
    dsimp only
    by_cases e : E < 100000000
    · have h := h1 e
      by_cases f : c + E < M
      · rw [if_pos f, if_pos (by omega), if_pos (by omega)]
        have : b + c + E = b + (c + E) := by omega
        rw [this]
      · rw [if_neg f, if_neg (by omega), if_pos a]
    · have h := h2 e
      have f : ¬ c + E < M := by omega
      rw [if_neg f, if_neg (fun q => e q.1), if_pos a]
  · rw [if_neg a]
    by_cases e : E < 100000000
    · have h := h1 e
      by_cases f : c + E < M
      · rw [if_pos f]
        by_cases g : u = 0 ∨ b + c + E < v
        · rw [if_pos ⟨e, g⟩, if_pos (by omega)]
          have : b + c + E = b + (c + E) := by omega
          rw [this]
        · rw [if_neg (by omega), if_neg (by omega)]
      · rw [if_neg f, if_neg (by omega), if_neg a]
    · have h := h2 e
      have f : ¬ c + E < M := by omega
      rw [if_neg f, if_neg (fun q => e q.1), if_neg a]

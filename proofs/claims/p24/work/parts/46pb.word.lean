/-! ===== words by their letters and by their values (by hand) ===== -/
def wch (k : Nat) : Int := ((((bytW.getD k 0) &&& 255).toUInt32 % 65536).toInt32).toInt
theorem chW_w {i : Int32} : (chW i).toInt = wch i.toNatClampNeg := rfl
def wsp (i : Nat) : Bool := decide (wch i = 32)
def wcn : Nat → Nat
  | 0 => 0
  | i + 1 => if wsp i = true then wcn i + 1 else wcn i
def wbg : Nat → Nat
  | 0 => 0
  | i + 1 => if wsp i = true then i + 1 else wbg i
def smL (b : Nat → Int) (bg st : Nat) : Nat → Bool
  | 0 => true
  | m + 1 => smL b bg st m && decide (wch (bg + m) = b (st + m))
theorem smL_iff {b : Nat → Int} {bg st : Nat} : ∀ {m : Nat}, smL b bg st m = true ↔ ∀ k, k < m → wch (bg + k) = b (st + k)
  | 0 => ⟨fun _ k h => absurd h (Nat.not_lt_zero _), fun _ => rfl⟩
  | m + 1 => by
    show (smL b bg st m && decide (wch (bg + m) = b (st + m))) = true ↔ _
    rw [Bool.and_eq_true, smL_iff (m := m), decide_eq_true_eq]
    constructor
    · rintro ⟨h1, h2⟩ k hk
      by_cases e : k = m
      · rw [e]
        exact h2
      · exact h1 k (by omega)
    · intro h
      exact ⟨fun k hk => h k (by omega), h m (by omega)⟩
theorem wV_pos {b : Nat → Int} {p : Nat} : ∀ {m : Nat}, (∀ k, k < m → 97 ≤ b (p + k) ∧ b (p + k) ≤ 122) → 0 ≤ wV b p m ∧ (0 < m → 0 < wV b p m)
  | 0, _ => ⟨Int.le_refl _, fun h => absurd h (Nat.not_lt_zero _)⟩
  | m + 1, h => by
    have ih := wV_pos (m := m) (fun k hk => h k (by omega))
    have := h m (by omega)
    show 0 ≤ 27 * wV b p m + (b (p + m) - 96) ∧ (0 < m + 1 → 0 < 27 * wV b p m + (b (p + m) - 96))
    omega
theorem wV_inj {b c : Nat → Int} {p q : Nat} : ∀ {m m' : Nat}, (∀ k, k < m → 97 ≤ b (p + k) ∧ b (p + k) ≤ 122) → (∀ k, k < m' → 97 ≤ c (q + k) ∧ c (q + k) ≤ 122) → wV b p m = wV c q m' → m = m' ∧ ∀ k, k < m → b (p + k) = c (q + k)
  | 0, 0, _, _, _ => ⟨rfl, fun k h => absurd h (Nat.not_lt_zero _)⟩
  | 0, m' + 1, _, h2, e => by
    exfalso
    have := (wV_pos (m := m' + 1) h2).2 (by omega)
    have e0 : wV b p 0 = 0 := rfl
    omega
  | m + 1, 0, h1, _, e => by
    exfalso
    have := (wV_pos (m := m + 1) h1).2 (by omega)
    have e0 : wV c q 0 = 0 := rfl
    omega
  | m + 1, m' + 1, h1, h2, e => by
    have a := h1 m (by omega)
    have a' := h2 m' (by omega)
    have e' : 27 * wV b p m + (b (p + m) - 96) = 27 * wV c q m' + (c (q + m') - 96) := e
    have ih := wV_inj (m := m) (m' := m') (fun k hk => h1 k (by omega)) (fun k hk => h2 k (by omega)) (by omega)
    refine ⟨by omega, fun k hk => ?_⟩
    by_cases z : k = m
    · rw [z]
      have em := ih.1
      have : c (q + m) = c (q + m') := by rw [em]
      omega
    · exact ih.2 k (by omega)
theorem wV_cong {b c : Nat → Int} {p q : Nat} : ∀ {m : Nat}, (∀ k, k < m → b (p + k) = c (q + k)) → wV b p m = wV c q m
  | 0, _ => rfl
  | m + 1, h => by
    show 27 * wV b p m + (b (p + m) - 96) = 27 * wV c q m + (c (q + m) - 96)
    rw [wV_cong (m := m) (fun k hk => h k (by omega)), h m (by omega)]
set_option maxRecDepth 100000 in
theorem w_tab : ∀ i, i < 97 → wsp i = true → (wcn i < 18 ∧ wbg i ≤ i ∧ i - wbg i ≤ 12 ∧ wL[wcn i]? = some (wV wch (wbg i) (i - wbg i)) ∧ ∀ k, k < i - wbg i → 97 ≤ wch (wbg i + k) ∧ wch (wbg i + k) ≤ 122) := by decide +kernel
set_option maxRecDepth 100000 in
theorem w_all0 : ∀ t, t < 18 → (List.range 97).any (fun i => wsp i && decide (wcn i = t)) = true := by decide +kernel
theorem w_all (t : Nat) (h : t < 18) : ∃ i, i < 97 ∧ wsp i = true ∧ wcn i = t := by
  obtain ⟨i, hi, e⟩ := List.any_eq_true.mp (w_all0 t h)
  rw [Bool.and_eq_true, decide_eq_true_eq] at e
  exact ⟨i, List.mem_range.mp hi, e.1, e.2⟩
theorem w_end : wbg 97 = 97 ∧ ∀ i, i < 97 → wbg i ≤ i ∧ wcn i ≤ 18 := by decide +kernel
/-- the word that ends ahead of the space at i is the one from st on -/
def wMt (b : Nat → Int) (st m i : Nat) : Prop := wsp i = true ∧ i - wbg i = m ∧ smL b (wbg i) st m = true
theorem wMt_yes {b : Nat → Int} {st m i : Nat} (hi : i < 97) (hb : ∀ k, k < m → 97 ≤ b (st + k) ∧ b (st + k) ≤ 122) (h : wMt b st m i) : wdK b st (st + m) = 256 + (wcn i : Int) := by
  obtain ⟨h1, h2, h3⟩ := h
  obtain ⟨t1, t2, t3, t4, t5⟩ := w_tab i hi h1
  have e : st + m - st = m := by omega
  have ev : wV b st m = wV wch (wbg i) (i - wbg i) := by
    rw [h2]
    exact (wV_cong (fun k hk => smL_iff.mp h3 k hk)).symm
  unfold wdK
  rw [e, if_pos (by omega)]
  exact (wdI_iff t1 t4).mpr ev
theorem wMt_no {b : Nat → Int} {st m : Nat} (hb : ∀ k, k < m → 97 ≤ b (st + k) ∧ b (st + k) ≤ 122) (h : ∀ i, i < 97 → ¬ wMt b st m i) : wdK b st (st + m) = 301 := by
  have e : st + m - st = m := by omega
  unfold wdK
  rw [e]
  by_cases c : m ≤ 12
  · rw [if_pos c]
    rcases wdI_rng (v := wV b st m) with q | q
    · exact q
    · exfalso
      obtain ⟨t, ht⟩ : ∃ t : Nat, wdI (wV b st m) = 256 + (t : Int) := ⟨(wdI (wV b st m) - 256).toNat, by omega⟩
      have t18 : t < 18 := by omega
      obtain ⟨i, i1, i2, i3⟩ := w_all t t18
      obtain ⟨t1, t2, t3, t4, t5⟩ := w_tab i i1 i2
      rw [i3] at t4
      have ev := (wdI_iff t18 t4).mp ht
      obtain ⟨n1, n2⟩ := wV_inj hb t5 ev
      exact h i i1 ⟨i2, n1.symm, smL_iff.mpr (fun k hk => (n2 k hk).symm)⟩
  · rw [if_neg c]
def ubt (x : Int) : Int := if x < 0 then x + 256 else x
set_option maxRecDepth 100000 in
theorem and255_tb : ∀ k : Fin 256, ((Int32.ofInt ((k.val : Int) - 128)) &&& 255).toInt = ubt ((k.val : Int) - 128) := by decide +kernel
theorem and255b {x : Int32} (h1 : -128 ≤ x.toInt) (h2 : x.toInt ≤ 127) : (x &&& 255).toInt = ubt x.toInt := by
  have h := and255_tb ⟨(x.toInt + 128).toNat, by omega⟩
  have e : (((x.toInt + 128).toNat : Nat) : Int) - 128 = x.toInt := by omega
  dsimp only at h
  rw [e] at h
  have ex : Int32.ofInt x.toInt = x := Int32.toInt_inj.mp (Int32.toInt_ofInt_of_le (by omega) (by omega))
  rw [ex] at h
  exact h
theorem lda_y {X : mX} {sh : List mE} {I : Nat → Nat → Int32} {L : Nat → Nat → Int64} {R : Nat → Nat → Option Nat} {q n : Nat} {i : Int32} {r : List Value} (h0 : sh[q]? = some (.inl (.byte, n))) (hin : inR i n = true) : lda X (sh, I, L, R) .baload (.int i :: .ref q :: r) = some (.int (I q i.toNatClampNeg) :: r) := by
  simp [lda, h0, aok, hin]

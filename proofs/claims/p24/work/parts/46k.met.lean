/-! ===== the greatest table of ways: what far reckons (by hand) ===== -/
def Mtrc (n : Nat) (cap : Int) (r V : Nat → Nat → Int) : Prop := (∀ a, a < n → V a a = 0) ∧ (∀ a b, a < n → b < n → 0 ≤ V a b ∧ V a b ≤ cap) ∧ (∀ a b, a < n → b < n → ¬ r a b = 0 → V a b ≤ r a b) ∧ (∀ a b c, a < n → b < n → c < n → V a c ≤ V a b + V b c)
def Grt (n : Nat) (cap : Int) (r W : Nat → Nat → Int) : Prop := Mtrc n cap r W ∧ ∀ V, Mtrc n cap r V → ∀ a b, a < n → b < n → V a b ≤ W a b
/-- two caps: the lesser table is the greater one cut off -/
theorem grt_cap {n : Nat} {c C : Int} {r U W : Nat → Nat → Int} (hc : 1 ≤ c) (hC : c ≤ C) (hU : Grt n c r U) (hW : Grt n C r W) {a b : Nat} (ha : a < n) (hb : b < n) : U a b = (if W a b < c then W a b else c) := by
  obtain ⟨⟨u1, u2, u3, u4⟩, u5⟩ := hU
  obtain ⟨⟨w1, w2, w3, w4⟩, w5⟩ := hW
  have h1 : U a b ≤ W a b := w5 U ⟨u1, fun x y hx hy => ⟨(u2 x y hx hy).1, by have := (u2 x y hx hy).2; omega⟩, u3, u4⟩ a b ha hb
  have h2 : (fun x y => if W x y < c then W x y else c) a b ≤ U a b := by
    refine u5 (fun x y => if W x y < c then W x y else c) ⟨fun x hx => ?_, fun x y hx hy => ?_, fun x y hx hy hr => ?_, fun x y z hx hy hz => ?_⟩ a b ha hb
    · show (if W x x < c then W x x else c) = 0
      rw [w1 x hx, if_pos (by omega)]
    · show 0 ≤ (if W x y < c then W x y else c) ∧ (if W x y < c then W x y else c) ≤ c
      have := w2 x y hx hy
      split <;> omega
    · show (if W x y < c then W x y else c) ≤ r x y
      have := w3 x y hx hy hr
      split <;> omega
    · show (if W x z < c then W x z else c) ≤ (if W x y < c then W x y else c) + (if W y z < c then W y z else c)
      have k1 := w4 x y z hx hy hz
      have k2 := w2 x y hx hy
      have k3 := w2 y z hy hz
      split <;> split <;> split <;> omega
  have h3 := (u2 a b ha hb).2
  have h2 : (if W a b < c then W a b else c) ≤ U a b := h2
  split at h2
  · next q =>
    rw [if_pos q]
    omega
  · next q =>
    rw [if_neg q]
    omega
/-- no way ends in a gap wider than a rail: all beyond it is cut off -/
theorem grt_gap {n : Nat} {C : Int} {r W : Nat → Nat → Int} (hC : 0 ≤ C) (hs : ∀ a b, a < n → b < n → r a b = r b a) (hr : ∀ a b, a < n → b < n → r a b ≤ 9) (hW : Grt n C r W) {a : Nat} (ha : a < n) {t : Int} (ht : 0 ≤ t) (hg : ∀ b, b < n → ¬ (t < W a b ∧ W a b ≤ t + 9)) {b : Nat} (hb : b < n) (h : t < W a b) : W a b = C := by
  obtain ⟨⟨w1, w2, w3, w4⟩, w5⟩ := hW
  have key : (fun x y => if (W a x ≤ t ∧ W a y ≤ t) ∨ (¬ W a x ≤ t ∧ ¬ W a y ≤ t) then W x y else C) a b ≤ W a b := by
    refine w5 (fun x y => if (W a x ≤ t ∧ W a y ≤ t) ∨ (¬ W a x ≤ t ∧ ¬ W a y ≤ t) then W x y else C) ⟨fun x hx => ?_, fun x y hx hy => ?_, fun x y hx hy hq => ?_, fun x y z hx hy hz => ?_⟩ a b ha hb
    · show (if (W a x ≤ t ∧ W a x ≤ t) ∨ (¬ W a x ≤ t ∧ ¬ W a x ≤ t) then W x x else C) = 0
      rw [if_pos (by omega)]
      exact w1 x hx
    · show 0 ≤ (if (W a x ≤ t ∧ W a y ≤ t) ∨ (¬ W a x ≤ t ∧ ¬ W a y ≤ t) then W x y else C) ∧ (if (W a x ≤ t ∧ W a y ≤ t) ∨ (¬ W a x ≤ t ∧ ¬ W a y ≤ t) then W x y else C) ≤ C
      have := w2 x y hx hy
      split <;> omega
    · show (if (W a x ≤ t ∧ W a y ≤ t) ∨ (¬ W a x ≤ t ∧ ¬ W a y ≤ t) then W x y else C) ≤ r x y
      have k1 := w3 x y hx hy hq
      have k2 : W y x ≤ r y x := w3 y x hy hx (by rw [hs y x hy hx]; exact hq)
      have k3 := w4 a x y ha hx hy
      have k4 := w4 a y x ha hy hx
      have k5 := hr x y hx hy
      have k6 := hr y x hy hx
      have g1 := hg x hx
      have g2 := hg y hy
      rw [if_pos (by omega)]
      exact k1
    · show (if (W a x ≤ t ∧ W a z ≤ t) ∨ (¬ W a x ≤ t ∧ ¬ W a z ≤ t) then W x z else C) ≤ (if (W a x ≤ t ∧ W a y ≤ t) ∨ (¬ W a x ≤ t ∧ ¬ W a y ≤ t) then W x y else C) + (if (W a y ≤ t ∧ W a z ≤ t) ∨ (¬ W a y ≤ t ∧ ¬ W a z ≤ t) then W y z else C)
      have k1 := w4 x y z hx hy hz
      have k2 := w2 x y hx hy
      have k3 := w2 y z hy hz
      have k4 := w2 x z hx hz
      by_cases c1 : W a x ≤ t
      · by_cases c2 : W a y ≤ t
        · by_cases c3 : W a z ≤ t
          · rw [if_pos (Or.inl ⟨c1, c3⟩), if_pos (Or.inl ⟨c1, c2⟩), if_pos (Or.inl ⟨c2, c3⟩)]
            exact k1
          · rw [if_neg (by omega), if_pos (Or.inl ⟨c1, c2⟩), if_neg (by omega)]
            omega
        · by_cases c3 : W a z ≤ t
          · rw [if_pos (Or.inl ⟨c1, c3⟩), if_neg (by omega), if_neg (by omega)]
            omega
          · rw [if_neg (by omega), if_neg (by omega), if_pos (Or.inr ⟨c2, c3⟩)]
            omega
      · by_cases c2 : W a y ≤ t
        · by_cases c3 : W a z ≤ t
          · rw [if_neg (by omega), if_neg (by omega), if_pos (Or.inl ⟨c2, c3⟩)]
            omega
          · rw [if_pos (Or.inr ⟨c1, c3⟩), if_neg (by omega), if_neg (by omega)]
            omega
        · by_cases c3 : W a z ≤ t
          · rw [if_neg (by omega), if_pos (Or.inr ⟨c1, c2⟩), if_neg (by omega)]
            omega
          · rw [if_pos (Or.inr ⟨c1, c3⟩), if_pos (Or.inr ⟨c1, c2⟩), if_pos (Or.inr ⟨c2, c3⟩)]
            exact k1
  have key : (if (W a a ≤ t ∧ W a b ≤ t) ∨ (¬ W a a ≤ t ∧ ¬ W a b ≤ t) then W a b else C) ≤ W a b := key
  have k0 := w1 a ha
  have k1 := (w2 a b ha hb).2
  rw [if_neg (by omega)] at key
  omega
def cntF (f : Nat → Int) (t : Int) : Nat → Nat
  | 0 => 0
  | n + 1 => cntF f t n + (if f n ≤ t then 1 else 0)
theorem cntF_le {f : Nat → Int} {t : Int} : ∀ {n : Nat}, cntF f t n ≤ n
  | 0 => Nat.le_refl _
  | n + 1 => by
    have ih := cntF_le (f := f) (t := t) (n := n)
    show cntF f t n + (if f n ≤ t then 1 else 0) ≤ n + 1
    split <;> omega
theorem cntF_mono {f : Nat → Int} {t t' : Int} (h : t ≤ t') : ∀ {n : Nat}, cntF f t n ≤ cntF f t' n
  | 0 => Nat.le_refl _
  | n + 1 => by
    have ih := cntF_mono (f := f) h (n := n)
    show cntF f t n + (if f n ≤ t then 1 else 0) ≤ cntF f t' n + (if f n ≤ t' then 1 else 0)
    split <;> split <;> omega
theorem cntF_lt {f : Nat → Int} {t t' : Int} {b : Nat} (h1 : t < f b) (h2 : f b ≤ t') : ∀ {n : Nat}, b < n → cntF f t n < cntF f t' n
  | 0, h => by omega
  | n + 1, h => by
    have hm := cntF_mono (f := f) (t := t) (t' := t') (by omega) (n := n)
    show cntF f t n + (if f n ≤ t then 1 else 0) < cntF f t' n + (if f n ≤ t' then 1 else 0)
    by_cases e : b = n
    · subst e
      rw [if_neg (by omega), if_pos h2]
      omega
    · have ih := cntF_lt h1 h2 (n := n) (by omega)
      split <;> split <;> omega
theorem cntF_pos {f : Nat → Int} {t : Int} {b : Nat} (h1 : f b ≤ t) : ∀ {n : Nat}, b < n → 1 ≤ cntF f t n
  | 0, h => by omega
  | n + 1, h => by
    show 1 ≤ cntF f t n + (if f n ≤ t then 1 else 0)
    by_cases e : b = n
    · subst e
      rw [if_pos h1]
      omega
    · have ih := cntF_pos h1 (n := n) (by omega)
      omega
/-- a way that isn't cut off is short -/
theorem grt_short {n : Nat} {C : Int} {r W : Nat → Nat → Int} (hn : n ≤ 20) (hC : 0 ≤ C) (hs : ∀ a b, a < n → b < n → r a b = r b a) (hr : ∀ a b, a < n → b < n → r a b ≤ 9) (hW : Grt n C r W) {a b : Nat} (ha : a < n) (hb : b < n) : W a b = C ∨ W a b ≤ 180 := by
  by_cases c : W a b ≤ 180
  · exact Or.inr c
  · by_cases c2 : W a b = C
    · exact Or.inl c2
    · exfalso
      have key : ∀ k : Nat, k ≤ 20 → k + 1 ≤ cntF (W a) (9 * (k : Int)) n := by
        intro k
        induction k with
        | zero =>
          intro _
          have h0 := hW.1.1 a ha
          exact cntF_pos (b := a) (by omega) ha
        | succ k ih =>
          intro hk
          have i := ih (by omega)
          by_cases g : ∀ b, b < n → ¬ (9 * (k : Int) < W a b ∧ W a b ≤ 9 * (k : Int) + 9)
          · exact absurd (grt_gap hC hs hr hW ha (t := 9 * (k : Int)) (by omega) g hb (by omega)) c2
          · obtain ⟨b', hg⟩ := Classical.not_forall.mp g
            have hb' : b' < n := Classical.byContradiction (fun q => hg (fun z => absurd z q))
            have hw : 9 * (k : Int) < W a b' ∧ W a b' ≤ 9 * (k : Int) + 9 := Classical.byContradiction (fun q => hg (fun _ => q))
            have l := cntF_lt (f := W a) (t := 9 * (k : Int)) (t' := 9 * ((k + 1 : Nat) : Int)) hw.1 (by omega) hb'
            omega
      have h20 := key 20 (Nat.le_refl _)
      have hle := cntF_le (f := W a) (t := 9 * ((20 : Nat) : Int)) (n := n)
      omega
/-- the loops: so far ways through the places below k are reckoned -/
def FwP (n k : Nat) (cap : Int) (r W : Nat → Nat → Int) : Prop := (∀ a, a < n → W a a = 0) ∧ (∀ a b, a < n → b < n → 0 ≤ W a b ∧ W a b ≤ cap) ∧ (∀ a b, a < n → b < n → ¬ r a b = 0 → W a b ≤ r a b) ∧ (∀ a b j, a < n → b < n → j < k → W a b ≤ W a j + W j b) ∧ ∀ V, Mtrc n cap r V → ∀ a b, a < n → b < n → V a b ≤ W a b
theorem fw_end {n : Nat} {cap : Int} {r W : Nat → Nat → Int} (h : FwP n n cap r W) : Grt n cap r W := ⟨⟨h.1, h.2.1, h.2.2.1, fun a b c ha hb hc => h.2.2.2.1 a c b ha hc hb⟩, h.2.2.2.2⟩
theorem fw_zero {n : Nat} {cap : Int} {r W : Nat → Nat → Int} (hr : ∀ a b, a < n → b < n → 0 ≤ r a b ∧ r a b ≤ cap) (hcap : 0 ≤ cap) (hW : ∀ a b, a < n → b < n → W a b = (if a = b then 0 else if r a b = 0 then cap else r a b)) : FwP n 0 cap r W := by
  refine ⟨fun a ha => ?_, fun a b ha hb => ?_, fun a b ha hb q => ?_, fun a b j _ _ hj => absurd hj (Nat.not_lt_zero _), fun V hV a b ha hb => ?_⟩
  · rw [hW a a ha ha, if_pos rfl]
  · have k := hr a b ha hb
    rw [hW a b ha hb]
    split
    · omega
    · split <;> omega
  · have k := hr a b ha hb
    rw [hW a b ha hb]
    split
    · omega
    · omega
  · rw [hW a b ha hb]
    split
    · next e =>
      subst e
      have := hV.1 a ha
      omega
    · split
      · exact (hV.2.1 a b ha hb).2
      · next q => exact hV.2.2.1 a b ha hb q
theorem fw_step {n k : Nat} {cap : Int} {r W W' : Nat → Nat → Int} (hk : k < n) (h : FwP n k cap r W) (hW : ∀ a b, a < n → b < n → W' a b = (if W a k + W k b < W a b then W a k + W k b else W a b)) : FwP n (k + 1) cap r W' := by
  obtain ⟨h1, h2, h3, h4, h5⟩ := h
  have kk := h1 k hk
  refine ⟨fun a ha => ?_, fun a b ha hb => ?_, fun a b ha hb q => ?_, fun a b j ha hb hj => ?_, fun V hV a b ha hb => ?_⟩
  · have x := h2 a k ha hk
    have y := h2 k a hk ha
    rw [hW a a ha ha, h1 a ha, if_neg (by omega)]
  · have x := h2 a k ha hk
    have y := h2 k b hk hb
    have z := h2 a b ha hb
    rw [hW a b ha hb]
    split <;> omega
  · have x := h3 a b ha hb q
    rw [hW a b ha hb]
    split <;> omega
  · have a1 := h2 a k ha hk
    have a2 := h2 k b hk hb
    by_cases e : j = k
    · subst e
      rw [hW a b ha hb, hW a j ha hk, hW j b hk hb, kk]
      split <;> split <;> split <;> omega
    · have hj2 : j < k := by omega
      have hjn : j < n := by omega
      have p1 := h4 a b j ha hb hj2
      have p2 := h4 a k j ha hk hj2
      have p3 := h4 k b j hk hb hj2
      have q1 := h2 k j hk hjn
      have q2 := h2 j k hjn hk
      have q3 := h2 a j ha hjn
      have q4 := h2 j b hjn hb
      rw [hW a b ha hb, hW a j ha hjn, hW j b hjn hb]
      split <;> split <;> split <;> omega
  · have v1 := h5 V hV a b ha hb
    have v2 := h5 V hV a k ha hk
    have v3 := h5 V hV k b hk hb
    have v4 := hV.2.2.2 a k b ha hk hb
    rw [hW a b ha hb]
    split <;> omega
/-- a rail between u and v of d days -/
def railU (u v : Nat) (d : Int) (r : Nat → Nat → Int) (x y : Nat) : Int := if (x = u ∧ y = v) ∨ (x = v ∧ y = u) then d else r x y
/-- a rail that is no shorter than the way there is -/
theorem grt_same {n u v : Nat} {C nd : Int} {r W : Nat → Nat → Int} (hW : Grt n C r W) (hu : u < n) (hv : v < n) (h1 : 1 ≤ nd) (hn1 : ¬ r u v = 0 → nd ≤ r u v) (hn2 : ¬ r v u = 0 → nd ≤ r v u) (hw1 : W u v ≤ nd) (hw2 : W v u ≤ nd) : Grt n C (railU u v nd r) W := by
  obtain ⟨⟨w1, w2, w3, w4⟩, w5⟩ := hW
  refine ⟨⟨w1, w2, fun a b ha hb q => ?_, w4⟩, fun V hV a b ha hb => w5 V ⟨hV.1, hV.2.1, fun x y hx hy q => ?_, hV.2.2.2⟩ a b ha hb⟩
  · unfold railU at q ⊢
    split
    · next e =>
      rcases e with ⟨rfl, rfl⟩ | ⟨rfl, rfl⟩
      · exact hw1
      · exact hw2
    · next e =>
      rw [if_neg e] at q
      exact w3 a b ha hb q
  · have k := hV.2.2.1 x y hx hy
    unfold railU at k
    split at k
    · next e =>
      have k := k (by omega)
      rcases e with ⟨rfl, rfl⟩ | ⟨rfl, rfl⟩
      · have := hn1 q
        omega
      · have := hn2 q
        omega
    · exact k q
/-- a rail that is shorter: the ways through it -/
theorem grt_rail {n u v : Nat} {C d : Int} {r W W' : Nat → Nat → Int} (hW : Grt n C r W) (hu : u < n) (hv : v < n) (h1 : 1 ≤ d) (hrw1 : ¬ r u v = 0 → d ≤ r u v) (hrw2 : ¬ r v u = 0 → d ≤ r v u) (hW' : ∀ a b, a < n → b < n → W' a b ≤ W a b ∧ W' a b ≤ W a u + d + W v b ∧ W' a b ≤ W a v + d + W u b ∧ (W' a b = W a b ∨ W' a b = W a u + d + W v b ∨ W' a b = W a v + d + W u b)) : Grt n C (railU u v d r) W' := by
  obtain ⟨⟨w1, w2, w3, w4⟩, w5⟩ := hW
  have pos : ∀ a b, a < n → b < n → 0 ≤ W' a b := by
    intro a b ha hb
    have k := (hW' a b ha hb).2.2.2
    have k1 := w2 a b ha hb
    have k2 := w2 a u ha hu
    have k3 := w2 v b hv hb
    have k4 := w2 a v ha hv
    have k5 := w2 u b hu hb
    omega
  refine ⟨⟨fun a ha => ?_, fun a b ha hb => ?_, fun a b ha hb q => ?_, fun a b c ha hb hc => ?_⟩, fun V hV a b ha hb => ?_⟩
  · have k := (hW' a a ha ha).1
    have k1 := w1 a ha
    have k2 := pos a a ha ha
    omega
  · have k := (hW' a b ha hb).1
    have k1 := w2 a b ha hb
    have k2 := pos a b ha hb
    omega
  · unfold railU at q ⊢
    split
    · next e =>
      rcases e with ⟨rfl, rfl⟩ | ⟨rfl, rfl⟩
      · have k := (hW' a b ha hb).2.1
        have k1 := w1 a ha
        have k2 := w1 b hb
        omega
      · have k := (hW' a b ha hb).2.2.1
        have k1 := w1 a ha
        have k2 := w1 b hb
        omega
    · next e =>
      rw [if_neg e] at q
      have k := (hW' a b ha hb).1
      have k1 := w3 a b ha hb q
      omega
  · have t := hW' a c ha hc
    have p := (hW' a b ha hb).2.2.2
    have q := (hW' b c hb hc).2.2.2
    have t1 := t.1
    have t2 := t.2.1
    have t3 := t.2.2.1
    have e1 := w4 a b c ha hb hc
    have e2 := w4 a u c ha hu hc
    have e3 := w4 a v c ha hv hc
    have e4 := w4 v b c hv hb hc
    have e5 := w4 u b c hu hb hc
    have e6 := w4 a b u ha hb hu
    have e7 := w4 a b v ha hb hv
    have n1 := w2 v b hv hb
    have n2 := w2 u b hu hb
    have n3 := w2 b u hb hu
    have n4 := w2 b v hb hv
    rcases p with p | p | p
    · rcases q with q | q | q <;> omega
    · rcases q with q | q | q <;> omega
    · rcases q with q | q | q <;> omega
  · have hVr : Mtrc n C r V := ⟨hV.1, hV.2.1, fun x y hx hy q => by
      have k := hV.2.2.1 x y hx hy
      unfold railU at k
      split at k
      · next e =>
        have k := k (by omega)
        rcases e with ⟨rfl, rfl⟩ | ⟨rfl, rfl⟩
        · have := hrw1 q
          omega
        · have := hrw2 q
          omega
      · exact k q, hV.2.2.2⟩
    have duv : V u v ≤ d := by
      have k := hV.2.2.1 u v hu hv
      unfold railU at k
      rw [if_pos (Or.inl ⟨rfl, rfl⟩)] at k
      exact k (by omega)
    have dvu : V v u ≤ d := by
      have k := hV.2.2.1 v u hv hu
      unfold railU at k
      rw [if_pos (Or.inr ⟨rfl, rfl⟩)] at k
      exact k (by omega)
    have m := fun x y hx hy => w5 V hVr x y hx hy
    have k := (hW' a b ha hb).2.2.2
    have a1 := m a b ha hb
    have a2 := m a u ha hu
    have a3 := m v b hv hb
    have a4 := m a v ha hv
    have a5 := m u b hu hb
    have b1 := hV.2.2.2 a u b ha hu hb
    have b2 := hV.2.2.2 u v b hu hv hb
    have b3 := hV.2.2.2 a v b ha hv hb
    have b4 := hV.2.2.2 v u b hv hu hb
    rcases k with k | k | k <;> omega
/-- a new place, without rails -/
theorem grt_new {n : Nat} {C : Int} {r r' W W' : Nat → Nat → Int} (hC : 0 ≤ C) (hW : Grt n C r W) (hr : ∀ a b, a < n → b < n → r' a b = r a b) (hr0 : ∀ a, a ≤ n → r' n a = 0 ∧ r' a n = 0) (h0 : W' n n = 0) (h1 : ∀ a, a < n → W' n a = C ∧ W' a n = C) (h2 : ∀ a b, a < n → b < n → W' a b = W a b) : Grt (n + 1) C r' W' := by
  obtain ⟨⟨w1, w2, w3, w4⟩, w5⟩ := hW
  have wb : ∀ a b, a < n + 1 → b < n + 1 → 0 ≤ W' a b ∧ W' a b ≤ C := by
    intro a b ha hb
    by_cases ea : a = n
    · subst ea
      by_cases eb : b = a
      · subst eb
        omega
      · have := (h1 b (by omega)).1
        omega
    · by_cases eb : b = n
      · subst eb
        have := (h1 a (by omega)).2
        omega
      · have k := w2 a b (by omega) (by omega)
        have e := h2 a b (by omega) (by omega)
        omega
  refine ⟨⟨fun a ha => ?_, wb, fun a b ha hb q => ?_, fun a b c ha hb hc => ?_⟩, fun V hV a b ha hb => ?_⟩
  · by_cases ea : a = n
    · subst ea
      exact h0
    · rw [h2 a a (by omega) (by omega)]
      exact w1 a (by omega)
  · by_cases ea : a = n
    · subst ea
      exact absurd (hr0 b (by omega)).1 q
    · by_cases eb : b = n
      · subst eb
        exact absurd (hr0 a (by omega)).2 q
      · rw [hr a b (by omega) (by omega)] at q ⊢
        rw [h2 a b (by omega) (by omega)]
        exact w3 a b (by omega) (by omega) q
  · have kac := wb a c ha hc
    have kab := wb a b ha hb
    have kbc := wb b c hb hc
    by_cases ea : a = n
    · subst ea
      by_cases eb : b = a
      · subst eb
        omega
      · have := (h1 b (by omega)).1
        omega
    · by_cases ec : c = n
      · subst ec
        by_cases eb : b = c
        · subst eb
          omega
        · have := (h1 b (by omega)).2
          omega
      · by_cases eb : b = n
        · subst eb
          have := (h1 a (by omega)).2
          omega
        · rw [h2 a c (by omega) (by omega), h2 a b (by omega) (by omega), h2 b c (by omega) (by omega)]
          exact w4 a b c (by omega) (by omega) (by omega)
  · have kv := (hV.2.1 a b ha hb).2
    by_cases ea : a = n
    · subst ea
      by_cases eb : b = a
      · subst eb
        have := hV.1 b hb
        omega
      · have := (h1 b (by omega)).1
        omega
    · by_cases eb : b = n
      · subst eb
        have := (h1 a (by omega)).2
        omega
      · rw [h2 a b (by omega) (by omega)]
        exact w5 V ⟨fun x hx => hV.1 x (by omega), fun x y hx hy => hV.2.1 x y (by omega) (by omega), fun x y hx hy q => by rw [← hr x y hx hy] at q ⊢; exact hV.2.2.1 x y (by omega) (by omega) q, fun x y z hx hy hz => hV.2.2.2 x y z (by omega) (by omega) (by omega)⟩ a b (by omega) (by omega)

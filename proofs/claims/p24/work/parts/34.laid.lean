/-! ===== rows that a parser lays: heights, and what is kept of them ===== -/
def dl (x : Int) : Int := if x = 1 ∨ x = 2 then 1 else if x = 3 then 0 else -1
def ned (x : Int) : Int := if x = 1 ∨ x = 2 then 0 else if x = 3 then 1 else 2
def hgt (A : Nat → Int) (s : Nat) : Nat → Int
  | 0 => 0
  | n + 1 => hgt A s n + dl (A (s + n))
/-- from s up to e: no step takes more than there is; names are names -/
def vsg (A V : Nat → Int) (s e : Nat) : Prop := ∀ n, s + n < e → ned (A (s + n)) ≤ hgt A s n ∧ (A (s + n) = 2 → 0 ≤ V (s + n) ∧ V (s + n) ≤ 9)
theorem hgt_congr {A A' : Nat → Int} {s : Nat} : ∀ {n : Nat}, (∀ k, s ≤ k → k < s + n → A k = A' k) → hgt A s n = hgt A' s n
  | 0, _ => rfl
  | n + 1, h => by
    unfold hgt
    rw [hgt_congr (n := n) (fun k h1 h2 => h k h1 (by omega)), h (s + n) (by omega) (by omega)]
theorem vsg_congr {A A' V V' : Nat → Int} {s e : Nat} (h : ∀ k, s ≤ k → k < e → A k = A' k ∧ V k = V' k) (hv : vsg A V s e) : vsg A' V' s e := by
  intro n hn
  have h1 := hv n hn
  have h2 := h (s + n) (by omega) hn
  rw [← hgt_congr (A := A) (fun k a b => (h k a (by omega)).1), ← h2.1, ← h2.2]
  exact h1
theorem vsg_nil {A V : Nat → Int} {s : Nat} : vsg A V s s := fun n hn => by omega
theorem hgt_bd {A : Nat → Int} {s : Nat} : ∀ n : Nat, -(n : Int) ≤ hgt A s n ∧ hgt A s n ≤ n
  | 0 => by unfold hgt; omega
  | n + 1 => by
    have ih := hgt_bd (A := A) (s := s) n
    unfold hgt
    have : -1 ≤ dl (A (s + n)) ∧ dl (A (s + n)) ≤ 1 := by
      unfold dl
      split
      · omega
      · split <;> omega
    omega
def nv (I : Nat → Nat → Int32) (q k : Nat) : Nat := (I q k).toInt.toNat
def zv (I : Nat → Nat → Int32) (q k : Nat) : Int := (I q k).toInt
/-! cells: 131 what, 132 with, 125 lines of a row, 128 129 130 from, to, when; places of the model: 35 rules, 52 row, 53 laid; of our own: 200 height, 201 sound, 202 203 where the two pieces begin -/
def lineOK (I : Nat → Nat → Int32) (r l : Nat) : Prop := nv I 128 l ≤ nv I 129 l ∧ nv I 129 l ≤ nv I 130 l ∧ nv I 130 l ≤ 270 ∧ vsg (zv I 131) (zv I 132) (270 * r + nv I 128 l) (270 * r + nv I 129 l) ∧ vsg (zv I 131) (zv I 132) (270 * r + nv I 129 l) (270 * r + nv I 130 l)
def rowsOK (I : Nat → Nat → Int32) : Prop := ∀ r i : Nat, r < nv I 94 35 → i < nv I 125 r → i < 130 ∧ lineOK I r (130 * r + i)
def curOK (I : Nat → Nat → Int32) : Prop := nv I 94 202 ≤ nv I 94 203 ∧ nv I 94 203 ≤ nv I 94 53 ∧ nv I 94 53 ≤ 270 ∧ vsg (zv I 131) (zv I 132) (270 * nv I 94 52 + nv I 94 202) (270 * nv I 94 52 + nv I 94 203) ∧ vsg (zv I 131) (zv I 132) (270 * nv I 94 52 + nv I 94 203) (270 * nv I 94 52 + nv I 94 53) ∧ hgt (zv I 131) (270 * nv I 94 52 + nv I 94 203) (nv I 94 53 - nv I 94 203) = zv I 94 200 ∧ ∀ i, i < nv I 125 (nv I 94 52) → i < 130 ∧ lineOK I (nv I 94 52) (130 * nv I 94 52 + i) ∧ nv I 130 (130 * nv I 94 52 + i) ≤ nv I 94 53
def e2 (I : Nat → Nat → Int32) : Prop := rowsOK I ∧ (zv I 94 201 = 1 → curOK I)
theorem lineOK_congr {I I' : Nat → Nat → Int32} {r l : Nat} (h1 : I' 128 l = I 128 l) (h2 : I' 129 l = I 129 l) (h3 : I' 130 l = I 130 l) (h4 : ∀ k, k < 270 * r + nv I 130 l → I' 131 k = I 131 k ∧ I' 132 k = I 132 k) (h : lineOK I r l) : lineOK I' r l := by
  obtain ⟨a1, a2, a3, a4, a5⟩ := h
  unfold lineOK nv zv
  rw [h1, h2, h3]
  have hz : ∀ s e, e ≤ 270 * r + nv I 130 l → vsg (zv I 131) (zv I 132) s e → vsg (fun k => (I' 131 k).toInt) (fun k => (I' 132 k).toInt) s e := by
    intro s e he hv
    refine vsg_congr (fun k _ hk => ?_) hv
    have := h4 k (by omega)
    unfold zv
    rw [this.1, this.2]
    exact ⟨rfl, rfl⟩
  exact ⟨a1, a2, a3, hz _ _ (by unfold nv at a2 ⊢; omega) a4, hz _ _ (Nat.le_refl _) a5⟩
/-- stores that reach none of it -/
def e2free (q k : Nat) : Prop := ¬ q = 125 ∧ ¬ q = 128 ∧ ¬ q = 129 ∧ ¬ q = 130 ∧ ¬ q = 131 ∧ ¬ q = 132 ∧ ¬ (q = 94 ∧ (k = 35 ∨ k = 52 ∨ k = 53 ∨ k = 200 ∨ k = 201 ∨ k = 202 ∨ k = 203))
theorem up2_ne {I : Nat → Nat → Int32} {q k q' k' : Nat} {x : Int32} (h : ¬ (q' = q ∧ k' = k)) : up2 I q k x q' k' = I q' k' := by
  unfold up2
  split
  · next e1 => rw [if_neg (fun e2 => h ⟨e1, e2⟩)]
  · rfl
theorem up2_eq {I : Nat → Nat → Int32} {q k : Nat} {x : Int32} : up2 I q k x q k = x := by
  unfold up2
  rw [if_pos rfl, if_pos rfl]
theorem up2_row {I : Nat → Nat → Int32} {q k q' : Nat} {x : Int32} (h : ¬ q' = q) : up2 I q k x q' = I q' := by
  funext k'
  exact up2_ne (fun e => h e.1)
theorem e2_put {I : Nat → Nat → Int32} {q k : Nat} {x : Int32} (hf : e2free q k) (h : e2 I) : e2 (up2 I q k x) := by
  obtain ⟨f1, f2, f3, f4, f5, f6, f7⟩ := hf
  have r1 : ∀ q', ¬ q' = q → up2 I q k x q' = I q' := fun q' h => up2_row h
  have m : ∀ k', (k' = 35 ∨ k' = 52 ∨ k' = 53 ∨ k' = 200 ∨ k' = 201 ∨ k' = 202 ∨ k' = 203) → up2 I q k x 94 k' = I 94 k' := by
    intro k' hk
    refine up2_ne (fun e => f7 ⟨e.1.symm, ?_⟩)
    rw [← e.2]
    exact hk
  unfold e2 rowsOK curOK lineOK nv zv at h ⊢
  rw [r1 125 (fun e => f1 e.symm), r1 128 (fun e => f2 e.symm), r1 129 (fun e => f3 e.symm), r1 130 (fun e => f4 e.symm), r1 131 (fun e => f5 e.symm), r1 132 (fun e => f6 e.symm), m 35 (by simp), m 52 (by simp), m 53 (by simp), m 200 (by simp), m 201 (by simp), m 202 (by simp), m 203 (by simp)]
  exact h
/-- rows of rules that stand are not touched by what happens in a later row -/
theorem rowsOK_far {I I' : Nat → Nat → Int32} {ro : Nat} (hR : nv I 94 35 ≤ ro) (m35 : I' 94 35 = I 94 35) (c125 : ∀ k, k < ro → I' 125 k = I 125 k) (cl : ∀ k, k < 130 * ro → I' 128 k = I 128 k ∧ I' 129 k = I 129 k ∧ I' 130 k = I 130 k) (ca : ∀ k, k < 270 * ro → I' 131 k = I 131 k ∧ I' 132 k = I 132 k) (h : rowsOK I) : rowsOK I' := by
  intro r i hr hi
  have hr0 : r < nv I 94 35 := by unfold nv at hr ⊢; rw [m35] at hr; exact hr
  have hi0 : i < nv I 125 r := by unfold nv at hi ⊢; rw [c125 r (by omega)] at hi; exact hi
  obtain ⟨b1, b2⟩ := h r i hr0 hi0
  have hk : 130 * r + i < 130 * ro := by
    have : r + 1 ≤ ro := by omega
    have := Nat.mul_le_mul_left 130 this
    omega
  obtain ⟨d1, d2, d3⟩ := cl _ hk
  refine ⟨b1, lineOK_congr d1 d2 d3 (fun k hk2 => ca k ?_) b2⟩
  have h3 := b2.2.2.1
  have : r + 1 ≤ ro := by omega
  have := Nat.mul_le_mul_left 270 this
  omega
theorem e2_lay {I I' : Nat → Nat → Int32} {p : Nat} {what v : Int32} (h125 : I' 125 = I 125) (h128 : I' 128 = I 128) (h129 : I' 129 = I 129) (h130 : I' 130 = I 130) (m35 : I' 94 35 = I 94 35) (m52 : I' 94 52 = I 94 52) (m202 : I' 94 202 = I 94 202) (m203 : I' 94 203 = I 94 203)
    (m53 : zv I' 94 53 = zv I 94 53 + 1) (h0 : 0 ≤ zv I 94 53) (hp : p = 270 * nv I 94 52 + nv I 94 53) (a1 : ∀ k, ¬ k = p → I' 131 k = I 131 k ∧ I' 132 k = I 132 k) (a2 : I' 131 p = what) (a3 : I' 132 p = v) (m200 : zv I' 94 200 = zv I 94 200 + dl what.toInt)
    (m201 : zv I' 94 201 = 1 → zv I 94 201 = 1 ∧ ned what.toInt ≤ zv I 94 200 ∧ (what.toInt = 2 → 0 ≤ v.toInt ∧ v.toInt ≤ 9)) (hR : nv I 94 35 ≤ nv I 94 52) (hl : nv I 94 53 ≤ 269) (h : e2 I) : e2 I' := by
  have n53 : nv I' 94 53 = nv I 94 53 + 1 := by unfold zv at m53 h0; unfold nv; omega
  have n52 : nv I' 94 52 = nv I 94 52 := by unfold nv; rw [m52]
  have n202 : nv I' 94 202 = nv I 94 202 := by unfold nv; rw [m202]
  have n203 : nv I' 94 203 = nv I 94 203 := by unfold nv; rw [m203]
  refine ⟨rowsOK_far hR m35 (fun k _ => by rw [h125]) (fun k _ => by rw [h128, h129, h130]; exact ⟨rfl, rfl, rfl⟩) (fun k hk => a1 k (by omega)) h.1, fun hf => ?_⟩
  obtain ⟨f1, f2, f3⟩ := m201 hf
  obtain ⟨c1, c2, c3, c4, c5, c6, c7⟩ := h.2 f1
  have za : ∀ k, k < p → zv I 131 k = zv I' 131 k ∧ zv I 132 k = zv I' 132 k := by
    intro k hk
    have := a1 k (by omega)
    unfold zv
    rw [this.1, this.2]
    exact ⟨rfl, rfl⟩
  refine ⟨by omega, by omega, by omega, ?_, ?_, ?_, ?_⟩
  · rw [n52, n202, n203]
    exact vsg_congr (fun k _ hk => za k (by omega)) c4
  · rw [n52, n203, n53]
    intro n hn
    by_cases e : 270 * nv I 94 52 + nv I 94 203 + n = p
    · have hz : zv I' 131 p = what.toInt := by unfold zv; rw [a2]
      have hz2 : zv I' 132 p = v.toInt := by unfold zv; rw [a3]
      rw [e, hz, hz2, ← hgt_congr (A := zv I 131) (fun k h1 h2 => (za k (by omega)).1), show n = nv I 94 53 - nv I 94 203 by omega, c6]
      exact ⟨f2, f3⟩
    · have := c5 n (by omega)
      rw [← hgt_congr (A := zv I 131) (fun k h1 h2 => (za k (by omega)).1), ← (za _ (by omega)).1, ← (za _ (by omega)).2]
      exact this
  · rw [n52, n203, n53, m200, show nv I 94 53 + 1 - nv I 94 203 = (nv I 94 53 - nv I 94 203) + 1 by omega]
    unfold hgt
    rw [← hgt_congr (A := zv I 131) (fun k h1 h2 => (za k (by omega)).1), c6, show 270 * nv I 94 52 + nv I 94 203 + (nv I 94 53 - nv I 94 203) = p by omega]
    have hz : zv I' 131 p = what.toInt := by unfold zv; rw [a2]
    rw [hz]
  · rw [n52, n53]
    intro i hi
    have hi0 : i < nv I 125 (nv I 94 52) := by unfold nv at hi ⊢; rw [h125] at hi; exact hi
    obtain ⟨d1, d2, d3⟩ := c7 i hi0
    have e130 : nv I' 130 (130 * nv I 94 52 + i) = nv I 130 (130 * nv I 94 52 + i) := by unfold nv; rw [h130]
    refine ⟨d1, lineOK_congr (by rw [h128]) (by rw [h129]) (by rw [h130]) (fun k hk => a1 k (by omega)) d2, by omega⟩
/-- a new row begins: nothing is said of it -/
theorem e2_off {I I' : Nat → Nat → Int32} {ro : Nat} (hR : nv I 94 35 ≤ ro) (m35 : I' 94 35 = I 94 35) (c125 : ∀ k, k < ro → I' 125 k = I 125 k) (cl : ∀ k, k < 130 * ro → I' 128 k = I 128 k ∧ I' 129 k = I 129 k ∧ I' 130 k = I 130 k) (ca : ∀ k, k < 270 * ro → I' 131 k = I 131 k ∧ I' 132 k = I 132 k) (hf : ¬ zv I' 94 201 = 1) (h : e2 I) : e2 I' :=
  ⟨rowsOK_far hR m35 c125 cl ca h.1, fun q => absurd q hf⟩
/-- it is empty -/
theorem e2_new {I I' : Nat → Nat → Int32} (hc : ∀ q, ¬ q = 94 → I' q = I q) (m35 : I' 94 35 = I 94 35) (n53 : nv I' 94 53 = 0) (n202 : nv I' 94 202 = 0) (n203 : nv I' 94 203 = 0) (z200 : zv I' 94 200 = 0) (hm : nv I' 125 (nv I' 94 52) = 0) (h : e2 I) : e2 I' := by
  refine ⟨rowsOK_far (ro := nv I 94 35) (Nat.le_refl _) m35 (fun k _ => by rw [hc 125 (by decide)]) (fun k _ => by rw [hc 128 (by decide), hc 129 (by decide), hc 130 (by decide)]; exact ⟨rfl, rfl, rfl⟩) (fun k _ => by rw [hc 131 (by decide), hc 132 (by decide)]; exact ⟨rfl, rfl⟩) h.1, fun _ => ?_⟩
  refine ⟨by omega, by omega, by omega, ?_, ?_, ?_, fun i hi => by omega⟩
  · rw [n202, n203]; exact vsg_nil
  · rw [n203, n53]; exact vsg_nil
  · rw [n53, n203, z200]; rfl
/-- in the current row the two pieces are set anew (a piece ends where the next begins) -/
theorem e2_cut {I I' : Nat → Nat → Int32} {l : Nat} (hR : nv I 94 35 ≤ nv I 94 52) (hl : l = 130 * nv I 94 52 + nv I 125 (nv I 94 52)) (m35 : I' 94 35 = I 94 35) (m52 : I' 94 52 = I 94 52) (m53 : I' 94 53 = I 94 53) (m201 : I' 94 201 = I 94 201) (h125 : I' 125 = I 125) (h131 : I' 131 = I 131) (h132 : I' 132 = I 132) (cl : ∀ k, ¬ k = l → I' 128 k = I 128 k ∧ I' 129 k = I 129 k ∧ I' 130 k = I 130 k)
    (hg : (nv I' 94 202 = nv I 94 53 ∧ nv I' 94 203 = nv I 94 53 ∧ zv I' 94 200 = 0) ∨ (nv I 94 202 = nv I 94 203 ∧ nv I' 94 202 = nv I 94 202 ∧ nv I' 94 203 = nv I 94 53 ∧ zv I' 94 200 = 0) ∨ (I' 94 202 = I 94 202 ∧ I' 94 203 = I 94 203 ∧ I' 94 200 = I 94 200)) (h : e2 I) : e2 I' := by
  have n52 : nv I' 94 52 = nv I 94 52 := by unfold nv; rw [m52]
  have n53 : nv I' 94 53 = nv I 94 53 := by unfold nv; rw [m53]
  have e131 : zv I' 131 = zv I 131 := by funext k; unfold zv; rw [h131]
  have e132 : zv I' 132 = zv I 132 := by funext k; unfold zv; rw [h132]
  refine ⟨rowsOK_far hR m35 (fun k _ => by rw [h125]) (fun k hk => cl k (by omega)) (fun k _ => by rw [h131, h132]; exact ⟨rfl, rfl⟩) h.1, fun hf => ?_⟩
  obtain ⟨c1, c2, c3, c4, c5, c6, c7⟩ := h.2 (by unfold zv at hf ⊢; rw [m201] at hf; exact hf)
  have lines : ∀ i, i < nv I' 125 (nv I 94 52) → i < 130 ∧ lineOK I' (nv I 94 52) (130 * nv I 94 52 + i) ∧ nv I' 130 (130 * nv I 94 52 + i) ≤ nv I 94 53 := by
    intro i hi
    have hi0 : i < nv I 125 (nv I 94 52) := by unfold nv at hi ⊢; rw [h125] at hi; exact hi
    obtain ⟨d1, d2, d3⟩ := c7 i hi0
    obtain ⟨g1, g2, g3⟩ := cl (130 * nv I 94 52 + i) (by omega)
    refine ⟨d1, lineOK_congr g1 g2 g3 (fun k _ => by rw [h131, h132]; exact ⟨rfl, rfl⟩) d2, ?_⟩
    have e130 : nv I' 130 (130 * nv I 94 52 + i) = nv I 130 (130 * nv I 94 52 + i) := congrArg (fun z : Int32 => z.toInt.toNat) g3
    rw [e130]
    exact d3
  unfold curOK
  rw [n52, n53, e131, e132]
  rcases hg with ⟨g1, g2, g3⟩ | ⟨g0, g1, g2, g3⟩ | ⟨g1, g2, g3⟩
  · rw [g1, g2, g3]
    refine ⟨Nat.le_refl _, Nat.le_refl _, c3, vsg_nil, vsg_nil, ?_, lines⟩
    rw [Nat.sub_self]
    rfl
  · rw [g1, g2, g3]
    refine ⟨by omega, Nat.le_refl _, c3, ?_, vsg_nil, ?_, lines⟩
    · rw [g0]; exact c5
    · rw [Nat.sub_self]; rfl
  · have k1 : nv I' 94 202 = nv I 94 202 := by unfold nv; rw [g1]
    have k2 : nv I' 94 203 = nv I 94 203 := by unfold nv; rw [g2]
    have k3 : zv I' 94 200 = zv I 94 200 := by unfold zv; rw [g3]
    rw [k1, k2, k3]
    exact ⟨c1, c2, c3, c4, c5, c6, lines⟩
/-- a line is done -/
theorem e2_line {I I' : Nat → Nat → Int32} {l : Nat} (hR : nv I 94 35 ≤ nv I 94 52) (hl : l = 130 * nv I 94 52 + nv I 125 (nv I 94 52)) (hm : nv I 125 (nv I 94 52) < 130) (hf : nv I 128 l = nv I 94 202) (ht : nv I 129 l = nv I 94 203) (hw : nv I 130 l = nv I 94 53) (m94 : I' 94 = I 94) (hc : ∀ q, ¬ q = 94 → ¬ q = 125 → I' q = I q) (c125 : ∀ k, ¬ k = nv I 94 52 → I' 125 k = I 125 k) (n125 : nv I' 125 (nv I 94 52) = nv I 125 (nv I 94 52) + 1) (h : e2 I) : e2 I' := by
  have e131 : zv I' 131 = zv I 131 := by funext k; unfold zv; rw [hc 131 (by decide) (by decide)]
  have e132 : zv I' 132 = zv I 132 := by funext k; unfold zv; rw [hc 132 (by decide) (by decide)]
  have nn : ∀ k, nv I' 94 k = nv I 94 k := fun k => by unfold nv; rw [m94]
  refine ⟨rowsOK_far hR (by rw [m94]) (fun k hk => c125 k (by omega)) (fun k _ => by rw [hc 128 (by decide) (by decide), hc 129 (by decide) (by decide), hc 130 (by decide) (by decide)]; exact ⟨rfl, rfl, rfl⟩) (fun k _ => by rw [hc 131 (by decide) (by decide), hc 132 (by decide) (by decide)]; exact ⟨rfl, rfl⟩) h.1, fun hq => ?_⟩
  obtain ⟨c1, c2, c3, c4, c5, c6, c7⟩ := h.2 (by unfold zv at hq ⊢; rw [m94] at hq; exact hq)
  have k3 : zv I' 94 200 = zv I 94 200 := by unfold zv; rw [m94]
  have lc : ∀ l', lineOK I (nv I 94 52) l' → lineOK I' (nv I 94 52) l' := fun l' hq => lineOK_congr (by rw [hc 128 (by decide) (by decide)]) (by rw [hc 129 (by decide) (by decide)]) (by rw [hc 130 (by decide) (by decide)]) (fun k _ => by rw [hc 131 (by decide) (by decide), hc 132 (by decide) (by decide)]; exact ⟨rfl, rfl⟩) hq
  have e130 : ∀ k, nv I' 130 k = nv I 130 k := fun k => by unfold nv; rw [hc 130 (by decide) (by decide)]
  unfold curOK
  rw [nn, nn, nn, nn, e131, e132, k3]
  refine ⟨c1, c2, c3, c4, c5, c6, fun i hi => ?_⟩
  rw [n125] at hi
  rw [e130]
  by_cases e : i = nv I 125 (nv I 94 52)
  · subst e
    rw [← hl]
    refine ⟨hm, lc _ ⟨by omega, by omega, by omega, ?_, ?_⟩, by omega⟩
    · rw [hf, ht]; exact c4
    · rw [ht, hw]; exact c5
  · obtain ⟨d1, d2, d3⟩ := c7 i (by omega)
    exact ⟨d1, lc _ d2, d3⟩
/-- a rule is taken -/
theorem e2_rule {I I' : Nat → Nat → Int32} (hR : nv I 94 52 = nv I 94 35) (hf : zv I 94 201 = 1) (hc : ∀ q, ¬ q = 94 → I' q = I q) (m : ∀ k, ¬ k = 35 → I' 94 k = I 94 k) (n35 : nv I' 94 35 = nv I 94 35 + 1) (h : e2 I) : e2 I' := by
  have lc : ∀ r l', lineOK I r l' → lineOK I' r l' := fun r l' hq => lineOK_congr (by rw [hc 128 (by decide)]) (by rw [hc 129 (by decide)]) (by rw [hc 130 (by decide)]) (fun k _ => by rw [hc 131 (by decide), hc 132 (by decide)]; exact ⟨rfl, rfl⟩) hq
  have e125 : ∀ k, nv I' 125 k = nv I 125 k := fun k => by unfold nv; rw [hc 125 (by decide)]
  have e130 : ∀ k, nv I' 130 k = nv I 130 k := fun k => by unfold nv; rw [hc 130 (by decide)]
  have e131 : zv I' 131 = zv I 131 := by funext k; unfold zv; rw [hc 131 (by decide)]
  have e132 : zv I' 132 = zv I 132 := by funext k; unfold zv; rw [hc 132 (by decide)]
  have nn : ∀ k, ¬ k = 35 → nv I' 94 k = nv I 94 k := fun k hk => by unfold nv; rw [m k hk]
  have k3 : zv I' 94 200 = zv I 94 200 := by unfold zv; rw [m 200 (by decide)]
  obtain ⟨c1, c2, c3, c4, c5, c6, c7⟩ := h.2 hf
  refine ⟨fun r i hr hi => ?_, fun _ => ?_⟩
  · rw [n35] at hr
    rw [e125] at hi
    by_cases e : r = nv I 94 35
    · rw [e, ← hR] at hi ⊢
      obtain ⟨d1, d2, d3⟩ := c7 i hi
      exact ⟨d1, lc _ _ d2⟩
    · obtain ⟨d1, d2⟩ := h.1 r i (by omega) hi
      exact ⟨d1, lc _ _ d2⟩
  · unfold curOK
    rw [nn 202 (by decide), nn 203 (by decide), nn 53 (by decide), nn 52 (by decide), e131, e132, k3]
    refine ⟨c1, c2, c3, c4, c5, c6, fun i hi => ?_⟩
    rw [e125] at hi
    rw [e130]
    obtain ⟨d1, d2, d3⟩ := c7 i hi
    exact ⟨d1, lc _ _ d2, d3⟩

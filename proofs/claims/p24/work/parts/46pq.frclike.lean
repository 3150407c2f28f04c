/-! ===== inForce: both sides alike (by hand) ===== -/
def Qfc (n : Int) (mk fr tab : Nat) (m : Nat) (p d2 d3 : Int32) (w : mW) (r : Option Value) (w' : mW) : Prop := w' = w ∧ ∃ y : Int32, r = some (.int y) ∧ y.toInt = if (0 ≤ p.toInt ∧ p.toInt < n) ∧ (0 ≤ d2.toInt ∧ d2.toInt ≤ 700) ∧ (0 ≤ d3.toInt ∧ d3.toInt ≤ 700) then rgF (-2) (fun k => (w.2.1 mk k).toInt) (fun k => (w.2.1 fr k).toInt) (rwT w.2.1 tab 0 p.toInt.toNat) d2.toInt d3.toInt m else -1
theorem tc_fcC {d : Nat} {sh : List mE} {R : Nat → Nat → Option Nat} {w : mW} {p d2 d3 : Int32} (hw : wOK (mkT vV []) (wE sh R) w) : Tc 114 (d + 3) 0 0 [.ref 0, .int p, .int d2, .int d3] w (Qfc (w.2.1 1 1).toInt 48 49 8 (w.2.1 47 3).toInt.toNat p d2 d3 w) := by
  obtain ⟨sh0, I, L, R0⟩ := w
  obtain rfl : sh = sh0 := hw.2.2.2.1.symm
  obtain rfl : R = R0 := hw.2.2.2.2.1.symm
  refine Tc.imp (tc_frcC (d := d) hw) (fun r w' h => ⟨h.2, ?_⟩)
  obtain ⟨⟨y, h1, h2⟩, -⟩ := h
  exact ⟨y, h1, h2⟩
theorem tc_fcM {d : Nat} {sh : List mE} {R : Nat → Nat → Option Nat} {w : mW} {p d2 d3 : Int32} (hw : wOK (mkT vV []) (wE sh R) w) : Tc 294 (d + 3) 0 0 [.ref 94, .int p, .int d2, .int d3] w (Qfc (w.2.1 94 2).toInt 123 124 102 (w.2.1 94 35).toInt.toNat p d2 d3 w) := by
  obtain ⟨sh0, I, L, R0⟩ := w
  obtain rfl : sh = sh0 := hw.2.2.2.1.symm
  obtain rfl : R = R0 := hw.2.2.2.2.1.symm
  refine Tc.imp (tc_frcM (d := d) hw) (fun r w' h => ⟨h.2, ?_⟩)
  obtain ⟨⟨y, h1, h2⟩, -⟩ := h
  exact ⟨y, h1, h2⟩
theorem Qfc_int {n : Int} {mk fr tab m : Nat} {p d2 d3 : Int32} {w w' : mW} {r : Option Value} (h : Qfc n mk fr tab m p d2 d3 w r w') : ∃ y : Int32, r = some (.int y) := by
  obtain ⟨-, y, h1, -⟩ := h
  exact ⟨y, h1⟩
theorem frc_like {p d2 d3 : Int32} {w w1 w2 : mW} {r1 r2 : Option Value} (hb : 0 ≤ (w.2.1 1 1).toInt ∧ (w.2.1 1 1).toInt ≤ 20) (hmr : ∀ k, 0 ≤ (w.2.1 48 k).toInt ∧ (w.2.1 48 k).toInt ≤ 700) (hR : w.2.1 1 1 = w.2.1 94 2) (hn : w.2.1 47 3 = w.2.1 94 35) (hm : ∀ k, w.2.1 48 k = w.2.1 123 k) (hg : ∀ k, w.2.1 49 k = w.2.1 124 k) (hF : RLf w) (h1 : Qfc (w.2.1 1 1).toInt 48 49 8 (w.2.1 47 3).toInt.toNat p d2 d3 w r1 w1) (h2 : Qfc (w1.2.1 94 2).toInt 123 124 102 (w1.2.1 94 35).toInt.toNat p d2 d3 w1 r2 w2) : r1 = r2 := by
  obtain ⟨e1, y1, p1, q1⟩ := h1
  rw [e1, ← hR, ← hn] at h2
  obtain ⟨-, y2, p2, q2⟩ := h2
  obtain ⟨-, g2, g3, -, -⟩ := hF
  rw [p1, p2]
  have e123 : (fun k => (w.2.1 123 k).toInt) = (fun k => (w.2.1 48 k).toInt) := funext (fun k => by rw [hm k])
  have e124 : (fun k => (w.2.1 124 k).toInt) = (fun k => (w.2.1 49 k).toInt) := funext (fun k => by rw [hg k])
  rw [e123, e124] at q2
  have ey : y1.toInt = y2.toInt := by
    rw [q1, q2]
    by_cases c : (0 ≤ p.toInt ∧ p.toInt < (w.2.1 1 1).toInt) ∧ (0 ≤ d2.toInt ∧ d2.toInt ≤ 700) ∧ (0 ≤ d3.toInt ∧ d3.toInt ≤ 700)
    · rw [if_pos c, if_pos c]
      obtain ⟨c1, c2, c3⟩ := c
      have G := grt_cap (a := 0) (b := p.toInt.toNat) (by decide) (by decide) g3 g2 (by omega) (by omega)
      refine rgF_v (fun m => ?_)
      have hk := hmr m
      show (w.2.1 48 m).toInt + _ ≤ _ ↔ (w.2.1 48 m).toInt + _ ≤ _
      split at G <;> omega
    · rw [if_neg c, if_neg c]
  rw [Int32.toInt_inj.mp ey]

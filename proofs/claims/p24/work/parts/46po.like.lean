/-! ===== feed, end, rule: both sides alike (by hand) ===== -/
def fdN (x : Int) : Int := if x + 20 ≤ 240 then x + 20 else x
def Qfd (cell fld row : Nat) (md : aM) (a b c x4 x5 : Int32) (w : mW) (r : Option Value) (w' : mW) : Prop := fresh w' ∧ (∃ sh' R', wOK (mkT vV []) (wE sh' R') w') ∧ (∃ y : Int32, r = some (.int y) ∧ y.toInt = if (w.2.1 cell fld).toInt + 20 ≤ 240 then (w.2.1 cell fld).toInt + 20 else -3) ∧ (∀ q k, inm md q k = false → w'.2.1 q k = w.2.1 q k) ∧ (w'.2.1 cell fld).toInt = fdN (w.2.1 cell fld).toInt ∧ w'.2.1 row = if (w.2.1 cell fld).toInt + 20 ≤ 240 then fd20 (w.2.1 row) (w.2.1 cell fld).toInt.toNat a b c x4 x5 else w.2.1 row
theorem tc_fedC {d : Nat} {sh : List mE} {R : Nat → Nat → Option Nat} {w : mW} {a b c x4 x5 : Int32} (hw : wOK (mkT vV []) (wE sh R) w) (hf : fresh w) : Tc 88 (d + 1) 0 0 [.ref 0, .int a, .int b, .int c, .int x4, .int x5] w (Qfd 41 0 42 mdAp a b c x4 x5 w) := by
  obtain ⟨sh0, I, L, R0⟩ := w
  obtain rfl : sh = sh0 := hw.2.2.2.1.symm
  obtain rfl : R = R0 := hw.2.2.2.2.1.symm
  refine Tc.imp (tc_feedC (d := d) hw hf) (fun r w' h => ?_)
  rcases h with ⟨h1, h2, h3⟩ | ⟨h1, ⟨y, h2, h3⟩, h4, h5, h6, h7, h8⟩
  · rw [h3]
    have hg : ¬ (((sh, I, L, R) : mW).2.1 41 0).toInt + 20 ≤ 240 := by
      show ¬ (I 41 0).toInt + 20 ≤ 240
      omega
    exact ⟨hf, ⟨sh, R, hw⟩, ⟨_, h2, (if_neg hg).symm⟩, fun _ _ _ => rfl, (if_neg hg).symm, (if_neg hg).symm⟩
  · exact ⟨h4, ⟨sh, R, h5⟩, ⟨y, h2, h3.trans (if_pos h1).symm⟩, h6, h7.trans (if_pos h1).symm, h8.trans (if_pos h1).symm⟩
theorem tc_fedM {d : Nat} {sh : List mE} {R : Nat → Nat → Option Nat} {w : mW} {a b c x4 x5 : Int32} (hw : wOK (mkT vV []) (wE sh R) w) (hf : fresh w) : Tc 274 (d + 1) 0 0 [.ref 94, .int a, .int b, .int c, .int x4, .int x5] w (Qfd 94 34 122 mdFo a b c x4 x5 w) := by
  obtain ⟨sh0, I, L, R0⟩ := w
  obtain rfl : sh = sh0 := hw.2.2.2.1.symm
  obtain rfl : R = R0 := hw.2.2.2.2.1.symm
  refine Tc.imp (tc_feedM (d := d) hw hf) (fun r w' h => ?_)
  rcases h with ⟨h1, h2, h3⟩ | ⟨h1, ⟨y, h2, h3⟩, h4, h5, h6, h7, h8⟩
  · rw [h3]
    have hg : ¬ (((sh, I, L, R) : mW).2.1 94 34).toInt + 20 ≤ 240 := by
      show ¬ (I 94 34).toInt + 20 ≤ 240
      omega
    exact ⟨hf, ⟨sh, R, hw⟩, ⟨_, h2, (if_neg hg).symm⟩, fun _ _ _ => rfl, (if_neg hg).symm, (if_neg hg).symm⟩
  · exact ⟨h4, ⟨sh, R, h5⟩, ⟨y, h2, h3.trans (if_pos h1).symm⟩, h6, h7.trans (if_pos h1).symm, h8.trans (if_pos h1).symm⟩
theorem Qfd_int {cell fld row : Nat} {md : aM} {a b c x4 x5 : Int32} {w w' : mW} {r : Option Value} (h : Qfd cell fld row md a b c x4 x5 w r w') : ∃ y : Int32, r = some (.int y) := by
  obtain ⟨y, h1, -⟩ := h.2.2.1
  exact ⟨y, h1⟩
theorem fd_like {a b c x4 x5 : Int32} {w w1 w2 : mW} {r1 r2 : Option Value} (hl : w.2.1 41 0 = w.2.1 94 34) (hr : ∀ k, w.2.1 42 k = w.2.1 122 k) (h1 : Qfd 41 0 42 mdAp a b c x4 x5 w r1 w1) (h2 : Qfd 94 34 122 mdFo a b c x4 x5 w1 r2 w2) : r1 = r2 ∧ w2.2.1 41 0 = w2.2.1 94 34 ∧ ∀ k, w2.2.1 42 k = w2.2.1 122 k := by
  obtain ⟨-, -, ⟨y1, p1, q1⟩, k1, n1, b1⟩ := h1
  obtain ⟨-, -, ⟨y2, p2, q2⟩, k2, n2, b2⟩ := h2
  have e34 : w1.2.1 94 34 = w.2.1 41 0 := (k1 94 34 rfl).trans hl.symm
  have e122 : w1.2.1 122 = w.2.1 42 := funext (fun k => (k1 122 k rfl).trans (hr k).symm)
  rw [e34] at q2 n2 b2
  rw [e122] at b2
  refine ⟨?_, ?_, fun k => ?_⟩
  · rw [p1, p2, Int32.toInt_inj.mp (q1.trans q2.symm)]
  · rw [k2 41 0 rfl]
    exact Int32.toInt_inj.mp (n1.trans n2.symm)
  · rw [k2 42 k rfl, b1, b2]
def Qen (cell fld : Nat) (v : Int32) (w : mW) (r : Option Value) (w' : mW) : Prop := fresh w' ∧ (∃ sh' R', wOK (mkT vV []) (wE sh' R') w') ∧ (∃ y : Int32, r = some (.int y) ∧ y.toInt = if 0 ≤ v.toInt ∧ v.toInt ≤ (w.2.1 cell fld).toInt then v.toInt else -1) ∧ (∀ q k, inm [(cell, some fld)] q k = false → w'.2.1 q k = w.2.1 q k) ∧ (w'.2.1 cell fld).toInt = if 0 ≤ v.toInt ∧ v.toInt ≤ (w.2.1 cell fld).toInt then v.toInt else (w.2.1 cell fld).toInt
theorem tc_enC {d : Nat} {sh : List mE} {R : Nat → Nat → Option Nat} {w : mW} {v : Int32} (hw : wOK (mkT vV []) (wE sh R) w) (hf : fresh w) : Tc 90 (d + 1) 0 0 [.ref 0, .int v] w (Qen 41 0 v w) := by
  obtain ⟨sh0, I, L, R0⟩ := w
  obtain rfl : sh = sh0 := hw.2.2.2.1.symm
  obtain rfl : R = R0 := hw.2.2.2.2.1.symm
  exact Tc.imp (tc_endC (d := d) hw hf) (fun r w' h => ⟨h.2.1, ⟨sh, R, h.2.2.1⟩, h.1, h.2.2.2.1, h.2.2.2.2⟩)
theorem tc_enM {d : Nat} {sh : List mE} {R : Nat → Nat → Option Nat} {w : mW} {v : Int32} (hw : wOK (mkT vV []) (wE sh R) w) (hf : fresh w) : Tc 276 (d + 1) 0 0 [.ref 94, .int v] w (Qen 94 34 v w) := by
  obtain ⟨sh0, I, L, R0⟩ := w
  obtain rfl : sh = sh0 := hw.2.2.2.1.symm
  obtain rfl : R = R0 := hw.2.2.2.2.1.symm
  exact Tc.imp (tc_endM (d := d) hw hf) (fun r w' h => ⟨h.2.1, ⟨sh, R, h.2.2.1⟩, h.1, h.2.2.2.1, h.2.2.2.2⟩)
theorem Qen_int {cell fld : Nat} {v : Int32} {w w' : mW} {r : Option Value} (h : Qen cell fld v w r w') : ∃ y : Int32, r = some (.int y) := by
  obtain ⟨y, h1, -⟩ := h.2.2.1
  exact ⟨y, h1⟩
theorem en_like {v : Int32} {w w1 w2 : mW} {r1 r2 : Option Value} (hl : w.2.1 41 0 = w.2.1 94 34) (h1 : Qen 41 0 v w r1 w1) (h2 : Qen 94 34 v w1 r2 w2) : r1 = r2 ∧ w2.2.1 41 0 = w2.2.1 94 34 := by
  obtain ⟨-, -, ⟨y1, p1, q1⟩, k1, n1⟩ := h1
  obtain ⟨-, -, ⟨y2, p2, q2⟩, k2, n2⟩ := h2
  have e34 : w1.2.1 94 34 = w.2.1 41 0 := (k1 94 34 rfl).trans hl.symm
  rw [e34] at q2 n2
  refine ⟨?_, ?_⟩
  · rw [p1, p2, Int32.toInt_inj.mp (q1.trans q2.symm)]
  · rw [k2 41 0 rfl]
    exact Int32.toInt_inj.mp (n1.trans n2.symm)
def QruC (x : Int32) (w : mW) (r : Option Value) (w' : mW) : Prop := fresh w' ∧ (∃ sh' R', wOK (mkT vV []) (wE sh' R') w') ∧ RUC w.2.1 x (ruC (w.2.1 1 0).toInt x.toInt (w.2.1 47 3).toInt (gFl (fun k => (w.2.1 42 k).toInt) (w.2.1 41 0).toInt.toNat)) (gFl (fun k => (w.2.1 42 k).toInt) (w.2.1 41 0).toInt.toNat) r w'.2.1
def QruM (x : Int32) (w : mW) (r : Option Value) (w' : mW) : Prop := fresh w' ∧ (∃ sh' R', wOK (mkT vV []) (wE sh' R') w') ∧ RUM w.2.1 x (ruC (w.2.1 94 1).toInt x.toInt (w.2.1 94 35).toInt (gFl (fun k => (w.2.1 122 k).toInt) (w.2.1 94 34).toInt.toNat)) (gFl (fun k => (w.2.1 122 k).toInt) (w.2.1 94 34).toInt.toNat) r w'.2.1
theorem tc_rlC {d : Nat} {sh : List mE} {R : Nat → Nat → Option Nat} {w : mW} {x : Int32} (hw : wOK (mkT vV []) (wE sh R) w) (hf : fresh w) : Tc 91 (d + 2 + (6 * (8 - 0) + 9)) 1 240 [.ref 0, .int x] w (QruC x w) := by
  obtain ⟨sh0, I, L, R0⟩ := w
  obtain rfl : sh = sh0 := hw.2.2.2.1.symm
  obtain rfl : R = R0 := hw.2.2.2.2.1.symm
  exact Tc.imp (tc_ruleC (d := d) hw hf) (fun r w' h => ⟨h.2.1, h.2.2, h.1⟩)
theorem tc_rlM {d : Nat} {sh : List mE} {R : Nat → Nat → Option Nat} {w : mW} {x : Int32} (hw : wOK (mkT vV []) (wE sh R) w) (hf : fresh w) : Tc 277 (d + 4 + (6 * (8 - 0) + 8)) 0 0 [.ref 94, .int x] w (QruM x w) := by
  obtain ⟨sh0, I, L, R0⟩ := w
  obtain rfl : sh = sh0 := hw.2.2.2.1.symm
  obtain rfl : R = R0 := hw.2.2.2.2.1.symm
  exact Tc.imp (tc_ruleM (d := d) hw hf) (fun r w' h => ⟨h.2.1, ⟨sh, R, h.2.2⟩, h.1⟩)
theorem ru_like {x : Int32} {w w1 w2 : mW} {r1 r2 : Option Value} (ht : w.2.1 1 0 = w.2.1 94 1) (hl : w.2.1 41 0 = w.2.1 94 34) (hb : ∀ k, w.2.1 42 k = w.2.1 122 k) (hn : w.2.1 47 3 = w.2.1 94 35) (hm : ∀ k, w.2.1 48 k = w.2.1 123 k) (hg : ∀ k, w.2.1 49 k = w.2.1 124 k) (h1 : QruC x w r1 w1) (h2 : QruM x w1 r2 w2) : r1 = r2 ∧ w2.2.1 41 0 = w2.2.1 94 34 ∧ w2.2.1 47 3 = w2.2.1 94 35 ∧ (∀ k, w2.2.1 48 k = w2.2.1 123 k) ∧ ∀ k, w2.2.1 49 k = w2.2.1 124 k := by
  obtain ⟨-, -, ⟨y1, p1, q1⟩, k1, l1, n1, m1, g1⟩ := h1
  obtain ⟨-, -, ⟨y2, p2, q2⟩, k2, l2, n2, m2, g2⟩ := h2
  have e1 : w1.2.1 94 1 = w.2.1 1 0 := (k1 94 1 (by decide) rfl).trans ht.symm
  have e34 : w1.2.1 94 34 = w.2.1 41 0 := (k1 94 34 (by decide) rfl).trans hl.symm
  have e35 : w1.2.1 94 35 = w.2.1 47 3 := (k1 94 35 (by decide) rfl).trans hn.symm
  have e122 : w1.2.1 122 = w.2.1 42 := funext (fun k => (k1 122 k (by decide) rfl).trans (hb k).symm)
  have e123 : w1.2.1 123 = w.2.1 48 := funext (fun k => (k1 123 k (by decide) rfl).trans (hm k).symm)
  have e124 : w1.2.1 124 = w.2.1 49 := funext (fun k => (k1 124 k (by decide) rfl).trans (hg k).symm)
  rw [e1, e34, e35, e122] at q2 l2 n2 m2 g2
  rw [e123] at m2
  rw [e124] at g2
  refine ⟨?_, ?_, ?_, fun k => ?_, fun k => ?_⟩
  · rw [p1, p2, Int32.toInt_inj.mp (q1.trans q2.symm)]
  · rw [k2 41 0 rfl]
    exact Int32.toInt_inj.mp (l1.trans l2.symm)
  · rw [k2 47 3 rfl]
    exact Int32.toInt_inj.mp (n1.trans n2.symm)
  · rw [k2 48 k rfl]
    exact Int32.toInt_inj.mp ((m1 k).trans (m2 k).symm)
  · rw [k2 49 k rfl]
    exact Int32.toInt_inj.mp ((g1 k).trans (g2 k).symm)

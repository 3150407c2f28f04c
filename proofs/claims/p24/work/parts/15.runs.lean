/-! ===== runs: many steps at once, calls and returns among them ===== -/
theorem bif_o {α : Type} {b : Bool} {A : Option α} {y : α} (h : (bif b then A else none) = some y) : b = true ∧ A = some y := by
  cases b
  · cases h
  · exact ⟨rfl, h⟩
/-- nothing is held beyond the cells that are there -/
def fresh (w : mW) : Prop := ∀ a : Nat, w.1.length ≤ a → ∀ k : Nat, w.2.1 a k = 0 ∧ w.2.2.1 a k = 0 ∧ w.2.2.2 a k = none
theorem zr_id {α : Type} {f : Nat → Nat → α} {n : Nat} {v : α} (h : ∀ k, f n k = v) : zr f n v = f := by
  funext i j
  unfold zr
  split
  · next e => rw [e, h j]
  · rfl
/-- a new cell, where nothing is held beyond those that are there -/
noncomputable def nwd (w : mW) (a : Nat) (ins : Instr) (st : List Value) : Option (List Value × mW × Nat) := match w with
  | (sh, I, L, R) => match ins, st with
    | .new _, st => if a < mF.length then some (.ref sh.length :: st, (sh ++ [.inr a], I, L, R), (flds a).length) else none
    | .newarray t, .int n :: r => bif !(decide (n < 0)) && decide (n.toNatClampNeg ≤ 100000) && nok t then some (.ref sh.length :: r, (sh ++ [.inl (newarray.typeOf t, n.toNatClampNeg)], I, L, R), n.toNatClampNeg) else none
    | .anewarray _, .int n :: r => bif !(decide (n < 0)) && decide (n.toNatClampNeg ≤ 100000) then some (.ref sh.length :: r, (sh ++ [.inl (.array .int, n.toNatClampNeg)], I, L, R), n.toNatClampNeg) else none
    | _, _ => none
theorem nwd_eq {w : mW} (h : fresh w) (a : Nat) (ins : Instr) (st : List Value) : nwd w a ins st = nwc w a ins st := by
  obtain ⟨sh, I, L, R⟩ := w
  have h1 : zr I sh.length 0 = I := zr_id (fun k => (h sh.length (Nat.le_refl _) k).1)
  have h2 : zr L sh.length 0 = L := zr_id (fun k => (h sh.length (Nat.le_refl _) k).2.1)
  have h3 : zr R sh.length none = R := zr_id (fun k => (h sh.length (Nat.le_refl _) k).2.2)
  unfold nwd nwc
  dsimp only
  rw [h1, h2, h3]
  rfl
noncomputable def step2 (j : Nat) (M : mMt) (X : mX) (S : mS) : Option (mS × Nat × Nat) := match S with
  | (pc, ls, st, w) => match mcode j pc with
    | none => none
    | some (_, ins, len, a, b, v, _) => match ins with
      | .getfield _ => match ldf w a b st with
        | some st' => some ((pc + 3, ls, st', w), 0, 0)
        | none => none
      | .putfield _ => match stf w (iniOf M) a b st with
        | some (st', w') => some ((pc + 3, ls, st', w'), 0, 0)
        | none => none
      | .iinc i n => match lkp ls i with
        | some (.int x) => if i < M.2.2.2.1 then some ((pc + 3, sto1 ls i (.int (x + Int32.ofInt n)), st, w), 0, 0) else none
        | _ => none
      | .invokespecial _ => match st with
        | .ref _ :: r => if b = 9 ∧ (r.map fun v => v.category).sum ≤ 8 then some ((pc + 3, ls, r, w), 0, 0) else none
        | _ => none
      | ins => match psh ins ls with
        | some u => some ((pc + len, ls, u :: st, w), 0, 0)
        | none => match brn pc a ins st with
          | some (pc', st') => some ((pc', ls, st', w), 0, 0)
          | none => match lda X w ins st with
            | some st' => some ((pc + 1, ls, st', w), 0, 0)
            | none => match sta w ins st with
              | some (st', w') => some ((pc + 1, ls, st', w'), 0, 0)
              | none => match ldk ins v with
                | some u => some ((pc + len, ls, u :: st, w), 0, 0)
                | none => match nwd w a ins st with
                  | some (st', w', n) => some ((pc + len, ls, st', w'), 1, n)
                  | none => match stk ins st with
                    | some st' => some ((pc + 1, ls, st', w), 0, 0)
                    | none => match st with
                      | u :: r => match stl M.2.2.2.1 ins ls u with
                        | some ls' => some ((pc + len, ls', r, w), 0, 0)
                        | none => none
                      | [] => none
theorem step2_eq {j : Nat} {M : mMt} {X : mX} {S : mS} (h : fresh S.2.2.2) : step2 j M X S = step1 j M X S := by
  obtain ⟨pc, ls, st, w⟩ := S
  unfold step2 step1
  dsimp only at h ⊢
  have e : nwd w = nwc w := by
    funext a ins st
    exact nwd_eq h a ins st
  rw [e]
  rfl
theorem fresh_I {sh : List mE} {I : Nat → Nat → Int32} {L : Nat → Nat → Int64} {R : Nat → Nat → Option Nat} (h : fresh (sh, I, L, R)) {q k : Nat} {x : Int32} {e : mE} (hq : sh[q]? = some e) : fresh (sh, up2 I q k x, L, R) := by
  intro a ha j
  have hlt : q < sh.length := (List.getElem?_eq_some_iff.mp hq).1
  have hne : ¬ a = q := by dsimp only at ha; omega
  have := h a ha j
  refine ⟨?_, this.2⟩
  show (if a = q then _ else _) = _
  rw [if_neg hne]
  exact this.1
theorem fresh_L {sh : List mE} {I : Nat → Nat → Int32} {L : Nat → Nat → Int64} {R : Nat → Nat → Option Nat} (h : fresh (sh, I, L, R)) {q k : Nat} {x : Int64} {e : mE} (hq : sh[q]? = some e) : fresh (sh, I, up2 L q k x, R) := by
  intro a ha j
  have hlt : q < sh.length := (List.getElem?_eq_some_iff.mp hq).1
  have hne : ¬ a = q := by dsimp only at ha; omega
  have := h a ha j
  refine ⟨this.1, ?_, this.2.2⟩
  show (if a = q then _ else _) = _
  rw [if_neg hne]
  exact this.2.1
theorem fresh_R {sh : List mE} {I : Nat → Nat → Int32} {L : Nat → Nat → Int64} {R : Nat → Nat → Option Nat} (h : fresh (sh, I, L, R)) {q k : Nat} {x : Option Nat} {e : mE} (hq : sh[q]? = some e) : fresh (sh, I, L, up2 R q k x) := by
  intro a ha j
  have hlt : q < sh.length := (List.getElem?_eq_some_iff.mp hq).1
  have hne : ¬ a = q := by dsimp only at ha; omega
  have := h a ha j
  refine ⟨this.1, this.2.1, ?_⟩
  show (if a = q then _ else _) = _
  rw [if_neg hne]
  exact this.2.2
theorem fresh_sta {w w' : mW} {ins : Instr} {st st' : List Value} (h : fresh w) (hs : sta w ins st = some (st', w')) : fresh w' := by
  obtain ⟨sh, I, L, R⟩ := w
  unfold sta at hs
  dsimp only at hs
  split at hs
  · split at hs
    · next ty n hq =>
      cases (bif_o hs).2
      exact fresh_L h hq
    · cases hs
  · split at hs
    · next ty n hq =>
      cases (bif_o hs).2
      exact fresh_I h hq
    · cases hs
  · split at hs
    · next ty n hq =>
      cases (bif_o hs).2
      exact fresh_I h hq
    · cases hs
  · cases hs
theorem fresh_stf {w w' : mW} {ini a b : Nat} {st st' : List Value} (h : fresh w) (hs : stf w ini a b st = some (st', w')) : fresh w' := by
  obtain ⟨sh, I, L, R⟩ := w
  unfold stf at hs
  dsimp only at hs
  split at hs
  · split at hs
    · next cn hq =>
      split at hs
      · have hs := (bif_o hs).2
        split at hs
        · cases hs; exact fresh_I h hq
        · split at hs
          · cases hs; exact fresh_I h hq
          · cases hs
        · cases hs; exact fresh_L h hq
        · cases hs; exact fresh_R h hq
        · cases hs; exact fresh_R h hq
        · cases hs
      · cases hs
    · cases hs
  · cases hs
theorem fresh_nwd {w w' : mW} {a n : Nat} {ins : Instr} {st st' : List Value} (h : fresh w) (hs : nwd w a ins st = some (st', w', n)) : fresh w' := by
  obtain ⟨sh, I, L, R⟩ := w
  have key : ∀ e : mE, fresh (sh ++ [e], I, L, R) := by
    intro e a ha k
    refine h a ?_ k
    dsimp only at ha ⊢
    rw [List.length_append] at ha
    omega
  unfold nwd at hs
  dsimp only at hs
  split at hs
  · split at hs
    · cases hs; exact key _
    · cases hs
  · cases (bif_o hs).2; exact key _
  · cases (bif_o hs).2; exact key _
  · cases hs
theorem fresh_step {j : Nat} {M : mMt} {X : mX} {S S' : mS} {k n : Nat} (h : fresh S.2.2.2) (hs : step2 j M X S = some (S', k, n)) : fresh S'.2.2.2 := by
  obtain ⟨pc, ls, st, w⟩ := S
  unfold step2 at hs
  dsimp only at h hs
  split at hs
  · cases hs
  · split at hs
    · split at hs
      · cases hs; exact h
      · cases hs
    · split at hs
      · next he => cases hs; exact fresh_stf h he
      · cases hs
    · split at hs
      · split at hs
        · cases hs; exact h
        · cases hs
      · cases hs
    · split at hs
      · split at hs
        · cases hs; exact h
        · cases hs
      · cases hs
    · split at hs
      · cases hs; exact h
      · split at hs
        · cases hs; exact h
        · split at hs
          · cases hs; exact h
          · split at hs
            · next he => cases hs; exact fresh_sta h he
            · split at hs
              · cases hs; exact h
              · split at hs
                · next he => cases hs; exact fresh_nwd h he
                · split at hs
                  · cases hs; exact h
                  · split at hs
                    · split at hs
                      · cases hs; exact h
                      · cases hs
                    · cases hs
/-- a frame: its method, place, locals, stack -/
abbrev mFr : Type := Nat × Nat × mL × List Value
/-- may this call be made: its kind, its receiver -/
noncomputable def ckb (ins : Instr) (Ma : mMt) (av : List Value) (w : mW) : Bool := match ins with
  | .invokestatic _ => Ma.2.2.2.2.2.1
  | .invokevirtual _ => match av with
    | .ref q :: _ => !mvi Ma && decide (w.1[q]? = some (.inr Ma.1))
    | _ => false
  | .invokespecial _ => match av with
    | .ref _ :: _ => !Ma.2.2.2.2.2.1 && decide (Ma.2.2.2.2.2.2.2 < 13) && decide (Ma.2.2.2.2.1 = none)
    | _ => false
  | _ => false
theorem ckb_ok {ins : Instr} {Ma : mMt} {av : List Value} {w : mW} (h : ckb ins Ma av w = true) : ckd ins Ma av w := by
  unfold ckb at h
  unfold ckd
  split at h
  · exact h
  · split at h
    · next q r =>
      simp only [Bool.and_eq_true, Bool.not_eq_true', decide_eq_true_eq] at h
      exact ⟨h.1, q, r, rfl, h.2⟩
    · cases h
  · split at h
    · next q r =>
      simp only [Bool.and_eq_true, Bool.not_eq_true', decide_eq_true_eq] at h
      exact ⟨h.1.1, h.1.2, h.2, q, r, rfl⟩
    · cases h
  · cases h
/-- may this answer be given here -/
def rtb (M : mMt) (ins : Instr) (r : Option Value) : Bool := match ins, r with
  | .return_, none => decide (M.2.2.2.2.1 = none)
  | .ireturn, some (.int x) => match M.2.2.2.2.1 with
    | some .int => true
    | some .boolean => decide (x = 0) || decide (x = 1)
    | _ => false
  | .lreturn, some (.long _) => decide (M.2.2.2.2.1 = some .long)
  | _, _ => false
theorem rtb_ok {j : Nat} {M : mMt} {pc pc0 len a b h : Nat} {v : Int} {ins : Instr} {r : Option Value} (hM : mt j = some M) (he : mcode j pc = some (pc0, ins, len, a, b, v, h)) (hr : rtb M ins r = true) : retOK M r pc := by
  obtain ⟨hd, hl, -⟩ := row_ok hM he
  unfold rtb at hr
  split at hr
  · obtain rfl : len = 1 := by rcases hl with q | q <;> simp [ilen] at q <;> exact q
    exact ⟨of_decide_eq_true hr, hd⟩
  · next x =>
    obtain rfl : len = 1 := by rcases hl with q | q <;> simp [ilen] at q <;> exact q
    refine ⟨?_, hd⟩
    split at hr
    · next h1 => exact ⟨_, h1, rfl⟩
    · next h1 =>
      simp only [Bool.or_eq_true, decide_eq_true_eq] at hr
      exact ⟨_, h1, by rcases hr with rfl | rfl <;> rfl⟩
    · cases hr
  · obtain rfl : len = 1 := by rcases hl with q | q <;> simp [ilen] at q <;> exact q
    exact ⟨of_decide_eq_true hr, hd⟩
  · cases hr
abbrev mC : Type := mFr × List mFr × mW
def mX0 (X : mX) (fs : List mFr) : mX := match fs with
  | [] => X
  | _ :: _ => none
noncomputable def ccall (j pc : Nat) (ls : mL) (st : List Value) (fs : List mFr) (w : mW) : Option mC := match mcode j pc with
  | none => none
  | some (_, ins, _, a, b, _, _) => match mt a with
    | none => none
    | some Ma => bif decide (a < 371) && !decide (b = 9) && decide (Ma.2.2.2.2.2.2.1 ≤ st.length) && decide (((st.drop Ma.2.2.2.2.2.2.1).map fun v => v.category).sum ≤ 8) && decide (fs.length < 40) && ckb ins Ma (st.take Ma.2.2.2.2.2.2.1).reverse w && decide ((lg_sl (st.take Ma.2.2.2.2.2.2.1).reverse).length ≤ Ma.2.2.2.1)
      then some ((a, 0, lv_args 0 (st.take Ma.2.2.2.2.2.2.1).reverse, []), (j, pc + 3, ls, st.drop Ma.2.2.2.2.2.2.1) :: fs, w) else none
noncomputable def cret (M : mMt) (j pc : Nat) (st : List Value) (fs : List mFr) (w : mW) : Option mC := match mcode j pc, st, fs with
  | some (_, ins, _, _, _, _, _), [], (j', pc', ls', st') :: fs' => bif rtb M ins none then some ((j', pc', ls', st'), fs', w) else none
  | some (_, ins, _, _, _, _, _), [v], (j', pc', ls', st') :: fs' => bif rtb M ins (some v) then some ((j', pc', ls', v :: st'), fs', w) else none
  | _, _, _ => none
/-- one step of a run; new cells by the lowest frame alone -/
noncomputable def cstep (X : mX) (C : mC) : Option (mC × Nat × Nat) := match C with
  | ((j, pc, ls, st), fs, w) => match mt j with
    | none => none
    | some M => match step2 j M (mX0 X fs) (pc, ls, st, w) with
      | some ((pc', ls', st', w'), k, n) => match fs, k with
        | _ :: _, _ + 1 => none
        | _, _ => some (((j, pc', ls', st'), fs, w'), k, n)
      | none => match ccall j pc ls st fs w with
        | some C' => some (C', 0, 0)
        | none => match cret M j pc st fs w with
          | some C' => some (C', 0, 0)
          | none => none
/-- the machine comes from here to the lowest frame's end, with Q -/
def XF (X : mX) (dd mc ms : Nat) (Q : Option Value → mW → Prop) : mFr → List mFr → mW → Prop
  | t, [], w => fresh w → ∀ M : mMt, mt t.1 = some M → XW t.1 M X dd mc ms Q (t.2.1, t.2.2.1, t.2.2.2, w)
  | t, f :: fs, w => fresh w → ∀ M : mMt, mt t.1 = some M → XW t.1 M none (dd - (fs.length + 1)) 0 0 (fun r w' => fresh w' ∧ XF X dd mc ms Q (f.1, f.2.1, f.2.2.1, r.toList ++ f.2.2.2) fs w') (t.2.1, t.2.2.1, t.2.2.2, w)
theorem XF.call_in {X : mX} {mc ms d : Nat} {Q Q' : Option Value → mW → Prop} {j pc : Nat} {M : mMt} {ls : mL} {st : List Value} {w : mW} {pc0 len a b h : Nat} {ins : Instr} {v : Int} {Ma : mMt} (hM : mt j = some M) (he : mcode j pc = some (pc0, ins, len, a, b, v, h)) (hMa : mt a = some Ma) (ha : a < 371) (hb9 : ¬ b = 9) (hn : Ma.2.2.2.2.2.2.1 ≤ st.length) (hcat : ((st.drop Ma.2.2.2.2.2.2.1).map fun v => v.category).sum ≤ 8) (hk : ckb ins Ma (st.take Ma.2.2.2.2.2.2.1).reverse w = true) (hfit : (lg_sl (st.take Ma.2.2.2.2.2.2.1).reverse).length ≤ Ma.2.2.2.1)
    (K : XW a Ma none d 0 0 Q' (0, lv_args 0 (st.take Ma.2.2.2.2.2.2.1).reverse, [], w)) (hQ : ∀ r w', Q' r w' → XW j M X (d + 1) mc ms Q (pc + 3, ls, r.toList ++ st.drop Ma.2.2.2.2.2.2.1, w')) : XW j M X (d + 1) mc ms Q (pc, ls, st, w) := by
  refine XW.call (d' := d) (mc' := 0) (ms' := 0) (Qc := Q') (av := (st.take Ma.2.2.2.2.2.2.1).reverse) (rest := st.drop Ma.2.2.2.2.2.2.1) hM he hMa ha hb9 (ckb_ok hk) (by rw [List.reverse_reverse, List.take_append_drop]) (by rw [List.length_reverse, List.length_take]; omega) hcat (Tc.of Ma hMa hfit K) (Nat.le_refl _) (Nat.zero_le _) (Nat.zero_le _) (fun r w' hr => ?_)
  exact hQ r w' hr
theorem XF.out {X : mX} {dd mc ms : Nat} {Q : Option Value → mW → Prop} {t : mFr} {fs : List mFr} {w : mW} (h : XF X dd mc ms Q t fs w) (hf : fresh w) {M : mMt} (hM : mt t.1 = some M) : match fs with
  | [] => XW t.1 M X dd mc ms Q (t.2.1, t.2.2.1, t.2.2.2, w)
  | f :: fs => XW t.1 M none (dd - (fs.length + 1)) 0 0 (fun r w' => fresh w' ∧ XF X dd mc ms Q (f.1, f.2.1, f.2.2.1, r.toList ++ f.2.2.2) fs w') (t.2.1, t.2.2.1, t.2.2.2, w) := by
  cases fs with
  | nil => unfold XF at h; exact h hf M hM
  | cons f fs => unfold XF at h; exact h hf M hM
theorem step_n0 {j : Nat} {M : mMt} {X : mX} {S S' : mS} {n : Nat} (hs : step1 j M X S = some (S', 0, n)) : n = 0 := by
  obtain ⟨pc, ls, st, w⟩ := S
  unfold step1 at hs
  dsimp only at hs
  repeat' split at hs
  all_goals first | (cases hs; done) | (cases hs; rfl)
set_option maxHeartbeats 2000000 in
theorem cstep_ok {X : mX} {dd mc ms k n : Nat} {Q : Option Value → mW → Prop} {t t' : mFr} {fs fs' : List mFr} {w w' : mW} (h : cstep X (t, fs, w) = some ((t', fs', w'), k, n)) (hdd : 41 ≤ dd) (hk : k ≤ mc) (hn : n ≤ ms) (K : XF X dd (mc - k) (ms - n) Q t' fs' w') : XF X dd mc ms Q t fs w := by
  obtain ⟨j, pc, ls, st⟩ := t
  unfold cstep at h
  dsimp only at h
  split at h
  · cases h
  · next M hM =>
    split at h
    · next pc' ls' st' w2 k2 n2 hs =>
      split at h
      · cases h
      · next hfk =>
        cases h
        cases fs with
        | nil =>
          unfold XF at K ⊢
          intro hf M' hM'
          cases hM.symm.trans hM'
          have hfr := fresh_step (S := (pc, ls, st, w)) hf hs
          rw [step2_eq (S := (pc, ls, st, w)) hf] at hs
          exact XW.step hM hs hk hn (K hfr M hM)
        | cons f fs =>
          unfold XF at K ⊢
          intro hf M' hM'
          cases hM.symm.trans hM'
          have hfr := fresh_step (S := (pc, ls, st, w)) hf hs
          rw [step2_eq (S := (pc, ls, st, w)) hf] at hs
          have hk0 : k = 0 := by
            cases k with
            | zero => rfl
            | succ k => exact absurd rfl (hfk f fs k rfl)
          subst hk0
          have hn0 : n = 0 := step_n0 hs
          subst hn0
          exact XW.step hM hs (Nat.le_refl _) (Nat.le_refl _) (K hfr M hM)
    · split at h
      · next C' hc =>
        cases h
        unfold ccall at hc
        split at hc
        · cases hc
        · next pc0 ins len a b v hh he =>
          split at hc
          · cases hc
          · next Ma hMa =>
            · obtain ⟨hcond, hc⟩ := bif_o hc
              cases hc
              simp only [Bool.and_eq_true, Bool.not_eq_true', decide_eq_true_eq, decide_eq_false_iff_not] at hcond
              obtain ⟨⟨⟨⟨⟨⟨c1, c2⟩, c3⟩, c4⟩, c5⟩, c6⟩, c7⟩ := hcond
              cases fs with
              | nil =>
                unfold XF at K ⊢
                intro hf M' hM'
                cases hM.symm.trans hM'
                have hd : dd = (dd - 1) + 1 := by omega
                dsimp only
                rw [hd]
                refine XF.call_in hM he hMa c1 c2 c3 c4 c6 c7 (K hf Ma hMa) (fun r w' hr => ?_)
                rw [← hd]
                exact XF.out hr.2 hr.1 hM
              | cons f fs =>
                unfold XF at K ⊢
                intro hf M' hM'
                cases hM.symm.trans hM'
                have hd : dd - (fs.length + 1) = (dd - ((f :: fs).length + 1)) + 1 := by
                  simp only [List.length_cons] at c5 ⊢
                  omega
                dsimp only
                rw [hd]
                refine XF.call_in hM he hMa c1 c2 c3 c4 c6 c7 (K hf Ma hMa) (fun r w' hr => ?_)
                rw [← hd]
                exact XF.out hr.2 hr.1 hM
      · split at h
        · next C' hc =>
          cases h
          unfold cret at hc
          split at hc
          · next pc0 ins len a b v hh j' pc' ls' st' fs' he _ _ =>
            · obtain ⟨hrt, hc⟩ := bif_o hc
              cases hc
              unfold XF
              intro hf M' hM'
              cases hM.symm.trans hM'
              exact XW.ret (r := none) (rtb_ok hM he hrt) ⟨hf, K⟩
          · next pc0 ins len a b v hh v' j' pc' ls' st' fs' he _ _ =>
            · obtain ⟨hrt, hc⟩ := bif_o hc
              cases hc
              unfold XF
              intro hf M' hM'
              cases hM.symm.trans hM'
              exact XW.ret (r := some v') (rtb_ok hM he hrt) ⟨hf, K⟩
          · cases hc
        · cases h
/-- many steps -/
noncomputable def crun (X : mX) : Nat → mC → Option (mC × Nat × Nat)
  | 0, C => some (C, 0, 0)
  | n + 1, C => match cstep X C with
    | some (C', k, m) => match crun X n C' with
      | some (C'', k', m') => some (C'', k + k', m + m')
      | none => none
    | none => none
theorem crun_ok {X : mX} {dd : Nat} {Q : Option Value → mW → Prop} (hdd : 41 ≤ dd) : ∀ (N : Nat) {mc ms k n : Nat} {C C' : mC}, crun X N C = some (C', k, n) → k ≤ mc → n ≤ ms → XF X dd (mc - k) (ms - n) Q C'.1 C'.2.1 C'.2.2 → XF X dd mc ms Q C.1 C.2.1 C.2.2
  | 0, mc, ms, k, n, C, C', h, hk, hn, K => by
    unfold crun at h
    cases h
    exact K
  | N + 1, mc, ms, k, n, C, C', h, hk, hn, K => by
    unfold crun at h
    split at h
    · next C1 k1 m1 h1 =>
      split at h
      · next C2 k2 m2 h2 =>
        cases h
        obtain ⟨t, fs, w⟩ := C
        obtain ⟨t1, fs1, w1⟩ := C1
        refine cstep_ok h1 hdd (by omega) (by omega) (crun_ok hdd N (mc := mc - k1) (ms := ms - m1) h2 (by omega) (by omega) ?_)
        rw [Nat.sub_sub, Nat.sub_sub]
        exact K
      · cases h
    · cases h

/-! rows for what isn't decided by numbers alone -/
theorem XF.fork {X : mX} {dd mc ms : Nat} {Q : Option Value → mW → Prop} {j pc tT tF : Nat} {ls : mL} {st r : List Value} {fs : List mFr} {w : mW} (hdd : 41 ≤ dd) (c : Jvm.ClassFile.Cond) (x y : Int32) (h : cstep X ((j, pc, ls, st), fs, w) = some (((j, bif bcmp c x y then tT else tF, ls, r), fs, w), 0, 0))
    (hT : bcmp c x y = true → XF X dd mc ms Q (j, tT, ls, r) fs w) (hF : bcmp c x y = false → XF X dd mc ms Q (j, tF, ls, r) fs w) : XF X dd mc ms Q (j, pc, ls, st) fs w := by
  refine cstep_ok h hdd (Nat.zero_le _) (Nat.zero_le _) ?_
  cases hb : bcmp c x y with
  | true => exact hT hb
  | false => exact hF hb
theorem XF.brT {X : mX} {dd mc ms : Nat} {Q : Option Value → mW → Prop} {j pc tT tF : Nat} {ls : mL} {st r : List Value} {fs : List mFr} {w : mW} (hdd : 41 ≤ dd) {c : Jvm.ClassFile.Cond} {x y : Int32} (hb : bcmp c x y = true) (h : cstep X ((j, pc, ls, st), fs, w) = some (((j, bif bcmp c x y then tT else tF, ls, r), fs, w), 0, 0))
    (K : XF X dd mc ms Q (j, tT, ls, r) fs w) : XF X dd mc ms Q (j, pc, ls, st) fs w := XF.fork hdd c x y h (fun _ => K) (fun q => by rw [hb] at q; cases q)
theorem XF.brF {X : mX} {dd mc ms : Nat} {Q : Option Value → mW → Prop} {j pc tT tF : Nat} {ls : mL} {st r : List Value} {fs : List mFr} {w : mW} (hdd : 41 ≤ dd) {c : Jvm.ClassFile.Cond} {x y : Int32} (hb : bcmp c x y = false) (h : cstep X ((j, pc, ls, st), fs, w) = some (((j, bif bcmp c x y then tT else tF, ls, r), fs, w), 0, 0))
    (K : XF X dd mc ms Q (j, tF, ls, r) fs w) : XF X dd mc ms Q (j, pc, ls, st) fs w := XF.fork hdd c x y h (fun q => by rw [hb] at q; cases q) (fun _ => K)
/-- comparisons of ints, as numbers -/
def icm (c : Jvm.ClassFile.Cond) (a b : Int) : Prop := match c with
  | .eq => a = b
  | .ne => ¬ a = b
  | .lt => a < b
  | .ge => b ≤ a
  | .gt => b < a
  | .le => a ≤ b
theorem icm_iff {c : Jvm.ClassFile.Cond} {x y : Int32} : bcmp c x y = true ↔ icm c x.toInt y.toInt := by
  cases c <;> simp only [bcmp, icm, decide_eq_true_eq, Int32.lt_iff_toInt_lt, Int32.le_iff_toInt_le]
  · exact ⟨fun h => by rw [h], fun h => Int32.toInt_inj.mp h⟩
  · exact ⟨fun h q => h (Int32.toInt_inj.mp q), fun h q => h (by rw [q])⟩
theorem icT {c : Jvm.ClassFile.Cond} {x y : Int32} {a b : Int} (hx : x.toInt = a) (hy : y.toInt = b) (h : bcmp c x y = true) : icm c a b := by
  have := icm_iff.mp h
  rw [hx, hy] at this
  exact this
theorem icF {c : Jvm.ClassFile.Cond} {x y : Int32} {a b : Int} (hx : x.toInt = a) (hy : y.toInt = b) (h : bcmp c x y = false) : ¬ icm c a b := by
  intro q
  have : bcmp c x y = true := icm_iff.mpr (by rw [hx, hy]; exact q)
  rw [h] at this
  cases this
theorem bcT {c : Jvm.ClassFile.Cond} {x y : Int32} {a b : Int} (hx : x.toInt = a) (hy : y.toInt = b) (h : icm c a b) : bcmp c x y = true := icm_iff.mpr (by rw [hx, hy]; exact h)
theorem bcF {c : Jvm.ClassFile.Cond} {x y : Int32} {a b : Int} (hx : x.toInt = a) (hy : y.toInt = b) (h : ¬ icm c a b) : bcmp c x y = false := by
  cases hb : bcmp c x y with
  | false => rfl
  | true => exact absurd (icT hx hy hb) h
theorem bc_self_eq {x : Int32} : bcmp .eq x x = true := by simp [bcmp]
theorem bc_self_ne {x : Int32} : bcmp .ne x x = false := by simp [bcmp]
theorem en32 {x : Int32} {k : Int} (h : x.toInt = k) : x = Int32.ofInt k := by rw [← h, Int32.ofInt_toInt]
theorem inR_of {x : Int32} {n : Nat} (h0 : 0 ≤ x.toInt) (h1 : x.toInt < n) : inR x n = true := by
  have hc : x.toNatClampNeg = x.toInt.toNat := rfl
  unfold inR
  simp only [Bool.and_eq_true, decide_eq_true_eq]
  refine ⟨?_, by rw [hc]; omega⟩
  rw [Int32.lt_iff_toInt_lt]
  show ¬ x.toInt < 0
  omega
theorem Tc.ofXF {j dd mc ms : Nat} {av : List Value} {w : mW} {Q : Option Value → mW → Prop} {M : mMt} (hM : mt j = some M) (hfit : (lg_sl av).length ≤ M.2.2.2.1) (hf : fresh w) (K : XF none dd mc ms Q (j, 0, lv_args 0 av, []) [] w) : Tc j dd mc ms av w Q := by
  refine Tc.of M hM hfit ?_
  unfold XF at K
  exact K hf M hM
/-- the lowest frame's end -/
theorem XF.fin {X : mX} {dd mc ms : Nat} {Q : Option Value → mW → Prop} {j pc : Nat} {ls : mL} {w : mW} {M : mMt} {pc0 len a b h : Nat} {v : Int} {ins : Instr} (r : Option Value) (hM : mt j = some M) (he : mcode j pc = some (pc0, ins, len, a, b, v, h)) (hr : rtb M ins r = true) (hQ : fresh w → Q r w) : XF X dd mc ms Q (j, pc, ls, r.toList) [] w := by
  unfold XF
  intro hf M' hM'
  cases hM.symm.trans hM'
  exact XW.ret (rtb_ok hM he hr) (hQ hf)
/-- a call by contract, from the lowest frame -/
theorem XF.callT {X : mX} {dd mc ms : Nat} {Q : Option Value → mW → Prop} {j pc : Nat} {ls : mL} {st : List Value} {w : mW} {M Ma : mMt} {pc0 len a b h d' mc' ms' : Nat} {v : Int} {ins : Instr} {av rest : List Value} {Qc : Option Value → mW → Prop} (hM : mt j = some M) (he : mcode j pc = some (pc0, ins, len, a, b, v, h)) (hMa : mt a = some Ma) (ha : a < 371) (hb9 : ¬ b = 9) (hk : ckb ins Ma av w = true) (hst : st = av.reverse ++ rest) (hlen : av.length = Ma.2.2.2.2.2.2.1) (hcat : (rest.map fun v => v.category).sum ≤ 8)
    (T : fresh w → Tc a d' mc' ms' av w Qc) (hd : d' + 1 ≤ dd) (hmc : mc' ≤ mc) (hms : ms' ≤ ms) (K : ∀ r w', Qc r w' → fresh w' ∧ XF X dd (mc - mc') (ms - ms') Q (j, pc + 3, ls, r.toList ++ rest) [] w') : XF X dd mc ms Q (j, pc, ls, st) [] w := by
  unfold XF
  intro hf M' hM'
  cases hM.symm.trans hM'
  refine XW.call hM he hMa ha hb9 (ckb_ok hk) hst hlen hcat (T hf) hd hmc hms (fun r w' hr => ?_)
  obtain ⟨h1, h2⟩ := K r w' hr
  exact XF.out h2 h1 hM
/-- a place of an int array, its index known to be within it -/
theorem XF.iald {X : mX} {dd mc ms : Nat} {Q : Option Value → mW → Prop} {j pc q n : Nat} {ls : mL} {r : List Value} {fs : List mFr} {w : mW} {M : mMt} {pc0 len a b h : Nat} {v : Int} {i : Int32} (hdd : 41 ≤ dd) (hM : mt j = some M) (he : mcode j pc = some (pc0, .iaload, len, a, b, v, h)) (hsh : w.1[q]? = some (.inl (.int, n))) (hin : inR i n = true) (K : XF X dd mc ms Q (j, pc + 1, ls, .int (w.2.1 q i.toNatClampNeg) :: r) fs w) : XF X dd mc ms Q (j, pc, ls, .int i :: .ref q :: r) fs w := by
  refine cstep_ok (k := 0) (n := 0) (t' := (j, pc + 1, ls, .int (w.2.1 q i.toNatClampNeg) :: r)) (fs' := fs) (w' := w) ?_ hdd (Nat.zero_le _) (Nat.zero_le _) K
  simp [cstep, step2, hM, he, psh, brn, lda, hsh, aok, hin]
theorem XF.iast {X : mX} {dd mc ms : Nat} {Q : Option Value → mW → Prop} {j pc q n : Nat} {ls : mL} {r : List Value} {fs : List mFr} {sh : List mE} {I : Nat → Nat → Int32} {L : Nat → Nat → Int64} {R : Nat → Nat → Option Nat} {M : mMt} {pc0 len a b h : Nat} {v : Int} {i x : Int32} (hdd : 41 ≤ dd) (hM : mt j = some M) (he : mcode j pc = some (pc0, .iastore, len, a, b, v, h)) (hsh : sh[q]? = some (.inl (.int, n))) (hin : inR i n = true) (K : XF X dd mc ms Q (j, pc + 1, ls, r) fs (sh, up2 I q i.toNatClampNeg x, L, R)) : XF X dd mc ms Q (j, pc, ls, .int x :: .int i :: .ref q :: r) fs (sh, I, L, R) := by
  refine cstep_ok (k := 0) (n := 0) (t' := (j, pc + 1, ls, r)) (fs' := fs) (w' := (sh, up2 I q i.toNatClampNeg x, L, R)) ?_ hdd (Nat.zero_le _) (Nat.zero_le _) K
  simp [cstep, step2, hM, he, psh, brn, lda, sta, hsh, aok, hin]
theorem fresh_0 : fresh ([], fun _ _ => 0, fun _ _ => 0, fun _ _ => none) := fun _ _ _ => ⟨rfl, rfl, rfl⟩
def mz32 : Nat → Nat → Int32 := fun _ _ => 0
def mz64 : Nat → Nat → Int64 := fun _ _ => 0
def mzr : Nat → Nat → Option Nat := fun _ _ => none
/-- the script's six ints -/
def fv (a0 a1 a2 a3 a4 a5 : Int32) : Nat → Int32 := fun i => match i with
  | 0 => a0
  | 1 => a1
  | 2 => a2
  | 3 => a3
  | 4 => a4
  | _ => a5
def Qone (r : Option Value) (_ : mW) : Prop := r = some (.int 1)
theorem XF.tswOut {X : mX} {dd mc ms : Nat} {Q : Option Value → mW → Prop} {j pc t : Nat} {ls : mL} {r : List Value} {fs : List mFr} {w : mW} {M : mMt} {pc0 len a b h : Nat} {v d lo hi : Int} {offs : Array Int} {x : Int32} (hdd : 41 ≤ dd) (hM : mt j = some M) (he : mcode j pc = some (pc0, .tableswitch d lo hi offs, len, a, b, v, h)) (hc : x.toInt < lo ∨ hi < x.toInt) (ht : tgt pc d = some t) (K : XF X dd mc ms Q (j, t, ls, r) fs w) : XF X dd mc ms Q (j, pc, ls, .int x :: r) fs w := by
  refine cstep_ok (k := 0) (n := 0) (t' := (j, t, ls, r)) (fs' := fs) (w' := w) ?_ hdd (Nat.zero_le _) (Nat.zero_le _) K
  simp [cstep, step2, hM, he, psh, brn, hc, ht]
